theorem dX0_init_0 : decode cX0_init 0 = .ok (.aload_n 0, 1) := by decide +kernel
theorem dX0_init_1 : decode cX0_init 1 = .ok (.invokespecial 3, 3) := by decide +kernel
theorem dX0_init_4 : decode cX0_init 4 = .ok (.aload_n 0, 1) := by decide +kernel
theorem dX0_init_5 : decode cX0_init 5 = .ok (.bipush 20, 2) := by decide +kernel
theorem dX0_init_7 : decode cX0_init 7 = .ok (.newarray .int, 2) := by decide +kernel
theorem dX0_init_9 : decode cX0_init 9 = .ok (.putfield 9, 3) := by decide +kernel
theorem dX0_init_12 : decode cX0_init 12 = .ok (.aload_n 0, 1) := by decide +kernel
theorem dX0_init_13 : decode cX0_init 13 = .ok (.bipush 20, 2) := by decide +kernel
theorem dX0_init_15 : decode cX0_init 15 = .ok (.newarray .int, 2) := by decide +kernel
theorem dX0_init_17 : decode cX0_init 17 = .ok (.putfield 15, 3) := by decide +kernel
theorem dX0_init_20 : decode cX0_init 20 = .ok (.aload_n 0, 1) := by decide +kernel
theorem dX0_init_21 : decode cX0_init 21 = .ok (.bipush 20, 2) := by decide +kernel
theorem dX0_init_23 : decode cX0_init 23 = .ok (.newarray .int, 2) := by decide +kernel
theorem dX0_init_25 : decode cX0_init 25 = .ok (.putfield 18, 3) := by decide +kernel
theorem dX0_init_28 : decode cX0_init 28 = .ok (.return_, 1) := by decide +kernel
theorem dX0_enter_0 : decode cX0_enter 0 = .ok (.aload_n 0, 1) := by decide +kernel
theorem dX0_enter_1 : decode cX0_enter 1 = .ok (.getfield 21, 3) := by decide +kernel
theorem dX0_enter_4 : decode cX0_enter 4 = .ok (.bipush 20, 2) := by decide +kernel
theorem dX0_enter_6 : decode cX0_enter 6 = .ok (.if_icmp .ge 43, 3) := by decide +kernel
theorem dX0_enter_9 : decode cX0_enter 9 = .ok (.aload_n 0, 1) := by decide +kernel
theorem dX0_enter_10 : decode cX0_enter 10 = .ok (.getfield 9, 3) := by decide +kernel
theorem dX0_enter_13 : decode cX0_enter 13 = .ok (.aload_n 0, 1) := by decide +kernel
theorem dX0_enter_14 : decode cX0_enter 14 = .ok (.getfield 21, 3) := by decide +kernel
theorem dX0_enter_17 : decode cX0_enter 17 = .ok (.iload_n 1, 1) := by decide +kernel
theorem dX0_enter_18 : decode cX0_enter 18 = .ok (.iastore, 1) := by decide +kernel
theorem dX0_enter_19 : decode cX0_enter 19 = .ok (.aload_n 0, 1) := by decide +kernel
theorem dX0_enter_20 : decode cX0_enter 20 = .ok (.getfield 15, 3) := by decide +kernel
theorem dX0_enter_23 : decode cX0_enter 23 = .ok (.aload_n 0, 1) := by decide +kernel
theorem dX0_enter_24 : decode cX0_enter 24 = .ok (.getfield 21, 3) := by decide +kernel
theorem dX0_enter_27 : decode cX0_enter 27 = .ok (.iload_n 2, 1) := by decide +kernel
theorem dX0_enter_28 : decode cX0_enter 28 = .ok (.iastore, 1) := by decide +kernel
theorem dX0_enter_29 : decode cX0_enter 29 = .ok (.aload_n 0, 1) := by decide +kernel
theorem dX0_enter_30 : decode cX0_enter 30 = .ok (.getfield 18, 3) := by decide +kernel
theorem dX0_enter_33 : decode cX0_enter 33 = .ok (.aload_n 0, 1) := by decide +kernel
theorem dX0_enter_34 : decode cX0_enter 34 = .ok (.getfield 21, 3) := by decide +kernel
theorem dX0_enter_37 : decode cX0_enter 37 = .ok (.iload_n 3, 1) := by decide +kernel
theorem dX0_enter_38 : decode cX0_enter 38 = .ok (.iastore, 1) := by decide +kernel
theorem dX0_enter_39 : decode cX0_enter 39 = .ok (.aload_n 0, 1) := by decide +kernel
theorem dX0_enter_40 : decode cX0_enter 40 = .ok (.dup, 1) := by decide +kernel
theorem dX0_enter_41 : decode cX0_enter 41 = .ok (.getfield 21, 3) := by decide +kernel
theorem dX0_enter_44 : decode cX0_enter 44 = .ok (.iconst 1, 1) := by decide +kernel
theorem dX0_enter_45 : decode cX0_enter 45 = .ok (.iadd, 1) := by decide +kernel
theorem dX0_enter_46 : decode cX0_enter 46 = .ok (.putfield 21, 3) := by decide +kernel
theorem dX0_enter_49 : decode cX0_enter 49 = .ok (.return_, 1) := by decide +kernel
theorem dX0_clear_0 : decode cX0_clear 0 = .ok (.aload_n 0, 1) := by decide +kernel
theorem dX0_clear_1 : decode cX0_clear 1 = .ok (.iconst 0, 1) := by decide +kernel
theorem dX0_clear_2 : decode cX0_clear 2 = .ok (.putfield 21, 3) := by decide +kernel
theorem dX0_clear_5 : decode cX0_clear 5 = .ok (.return_, 1) := by decide +kernel
theorem dX0_firstWrong_0 : decode cX0_firstWrong 0 = .ok (.iconst 0, 1) := by decide +kernel
theorem dX0_firstWrong_1 : decode cX0_firstWrong 1 = .ok (.istore_n 2, 1) := by decide +kernel
theorem dX0_firstWrong_2 : decode cX0_firstWrong 2 = .ok (.iload_n 2, 1) := by decide +kernel
theorem dX0_firstWrong_3 : decode cX0_firstWrong 3 = .ok (.aload_n 0, 1) := by decide +kernel
theorem dX0_firstWrong_4 : decode cX0_firstWrong 4 = .ok (.getfield 21, 3) := by decide +kernel
theorem dX0_firstWrong_7 : decode cX0_firstWrong 7 = .ok (.if_icmp .ge 20, 3) := by decide +kernel
theorem dX0_firstWrong_10 : decode cX0_firstWrong 10 = .ok (.aload_n 0, 1) := by decide +kernel
theorem dX0_firstWrong_11 : decode cX0_firstWrong 11 = .ok (.iload_n 2, 1) := by decide +kernel
theorem dX0_firstWrong_12 : decode cX0_firstWrong 12 = .ok (.aload_n 1, 1) := by decide +kernel
theorem dX0_firstWrong_13 : decode cX0_firstWrong 13 = .ok (.invokevirtual 25, 3) := by decide +kernel
theorem dX0_firstWrong_16 : decode cX0_firstWrong 16 = .ok (.ifCond .eq 5, 3) := by decide +kernel
theorem dX0_firstWrong_19 : decode cX0_firstWrong 19 = .ok (.iload_n 2, 1) := by decide +kernel
theorem dX0_firstWrong_20 : decode cX0_firstWrong 20 = .ok (.ireturn, 1) := by decide +kernel
theorem dX0_firstWrong_21 : decode cX0_firstWrong 21 = .ok (.iinc 2 1, 3) := by decide +kernel
theorem dX0_firstWrong_24 : decode cX0_firstWrong 24 = .ok (.goto (-22), 3) := by decide +kernel
theorem dX0_firstWrong_27 : decode cX0_firstWrong 27 = .ok (.iconst (-1), 1) := by decide +kernel
theorem dX0_firstWrong_28 : decode cX0_firstWrong 28 = .ok (.ireturn, 1) := by decide +kernel
theorem dX0_isWrong_0 : decode cX0_isWrong 0 = .ok (.aload_n 2, 1) := by decide +kernel
theorem dX0_isWrong_1 : decode cX0_isWrong 1 = .ok (.aload_n 0, 1) := by decide +kernel
theorem dX0_isWrong_2 : decode cX0_isWrong 2 = .ok (.getfield 9, 3) := by decide +kernel
theorem dX0_isWrong_5 : decode cX0_isWrong 5 = .ok (.iload_n 1, 1) := by decide +kernel
theorem dX0_isWrong_6 : decode cX0_isWrong 6 = .ok (.iaload, 1) := by decide +kernel
theorem dX0_isWrong_7 : decode cX0_isWrong 7 = .ok (.aload_n 0, 1) := by decide +kernel
theorem dX0_isWrong_8 : decode cX0_isWrong 8 = .ok (.getfield 15, 3) := by decide +kernel
theorem dX0_isWrong_11 : decode cX0_isWrong 11 = .ok (.iload_n 1, 1) := by decide +kernel
theorem dX0_isWrong_12 : decode cX0_isWrong 12 = .ok (.iaload, 1) := by decide +kernel
theorem dX0_isWrong_13 : decode cX0_isWrong 13 = .ok (.invokevirtual 29, 3) := by decide +kernel
theorem dX0_isWrong_16 : decode cX0_isWrong 16 = .ok (.astore_n 3, 1) := by decide +kernel
theorem dX0_isWrong_17 : decode cX0_isWrong 17 = .ok (.aload_n 3, 1) := by decide +kernel
theorem dX0_isWrong_18 : decode cX0_isWrong 18 = .ok (.ifnull 23, 3) := by decide +kernel
theorem dX0_isWrong_21 : decode cX0_isWrong 21 = .ok (.aload_n 3, 1) := by decide +kernel
theorem dX0_isWrong_22 : decode cX0_isWrong 22 = .ok (.getfield 35, 3) := by decide +kernel
theorem dX0_isWrong_25 : decode cX0_isWrong 25 = .ok (.aload_n 0, 1) := by decide +kernel
theorem dX0_isWrong_26 : decode cX0_isWrong 26 = .ok (.getfield 15, 3) := by decide +kernel
theorem dX0_isWrong_29 : decode cX0_isWrong 29 = .ok (.iload_n 1, 1) := by decide +kernel
theorem dX0_isWrong_30 : decode cX0_isWrong 30 = .ok (.iaload, 1) := by decide +kernel
theorem dX0_isWrong_31 : decode cX0_isWrong 31 = .ok (.iaload, 1) := by decide +kernel
theorem dX0_isWrong_32 : decode cX0_isWrong 32 = .ok (.aload_n 0, 1) := by decide +kernel
theorem dX0_isWrong_33 : decode cX0_isWrong 33 = .ok (.getfield 18, 3) := by decide +kernel
theorem dX0_isWrong_36 : decode cX0_isWrong 36 = .ok (.iload_n 1, 1) := by decide +kernel
theorem dX0_isWrong_37 : decode cX0_isWrong 37 = .ok (.iaload, 1) := by decide +kernel
theorem dX0_isWrong_38 : decode cX0_isWrong 38 = .ok (.if_icmp .eq 7, 3) := by decide +kernel
theorem dX0_isWrong_41 : decode cX0_isWrong 41 = .ok (.iconst 1, 1) := by decide +kernel
theorem dX0_isWrong_42 : decode cX0_isWrong 42 = .ok (.goto 4, 3) := by decide +kernel
theorem dX0_isWrong_45 : decode cX0_isWrong 45 = .ok (.iconst 0, 1) := by decide +kernel
theorem dX0_isWrong_46 : decode cX0_isWrong 46 = .ok (.ireturn, 1) := by decide +kernel
theorem dX1_init_0 : decode cX1_init 0 = .ok (.aload_n 0, 1) := by decide +kernel
theorem dX1_init_1 : decode cX1_init 1 = .ok (.invokespecial 3, 3) := by decide +kernel
theorem dX1_init_4 : decode cX1_init 4 = .ok (.return_, 1) := by decide +kernel
theorem dX1_draw_0 : decode cX1_draw 0 = .ok (.aload_n 0, 1) := by decide +kernel
theorem dX1_draw_1 : decode cX1_draw 1 = .ok (.aload_n 0, 1) := by decide +kernel
theorem dX1_draw_2 : decode cX1_draw 2 = .ok (.getfield 9, 3) := by decide +kernel
theorem dX1_draw_5 : decode cX1_draw 5 = .ok (.i2l, 1) := by decide +kernel
theorem dX1_draw_6 : decode cX1_draw 6 = .ok (.ldc2_w 15, 3) := by decide +kernel
theorem dX1_draw_9 : decode cX1_draw 9 = .ok (.lmul, 1) := by decide +kernel
theorem dX1_draw_10 : decode cX1_draw 10 = .ok (.ldc2_w 17, 3) := by decide +kernel
theorem dX1_draw_13 : decode cX1_draw 13 = .ok (.ladd, 1) := by decide +kernel
theorem dX1_draw_14 : decode cX1_draw 14 = .ok (.ldc2_w 19, 3) := by decide +kernel
theorem dX1_draw_17 : decode cX1_draw 17 = .ok (.lrem, 1) := by decide +kernel
theorem dX1_draw_18 : decode cX1_draw 18 = .ok (.l2i, 1) := by decide +kernel
theorem dX1_draw_19 : decode cX1_draw 19 = .ok (.putfield 9, 3) := by decide +kernel
theorem dX1_draw_22 : decode cX1_draw 22 = .ok (.iload_n 1, 1) := by decide +kernel
theorem dX1_draw_23 : decode cX1_draw 23 = .ok (.ifCond .le 15, 3) := by decide +kernel
theorem dX1_draw_26 : decode cX1_draw 26 = .ok (.aload_n 0, 1) := by decide +kernel
theorem dX1_draw_27 : decode cX1_draw 27 = .ok (.getfield 9, 3) := by decide +kernel
theorem dX1_draw_30 : decode cX1_draw 30 = .ok (.ldc 21, 2) := by decide +kernel
theorem dX1_draw_32 : decode cX1_draw 32 = .ok (.idiv, 1) := by decide +kernel
theorem dX1_draw_33 : decode cX1_draw 33 = .ok (.iload_n 1, 1) := by decide +kernel
theorem dX1_draw_34 : decode cX1_draw 34 = .ok (.irem, 1) := by decide +kernel
theorem dX1_draw_35 : decode cX1_draw 35 = .ok (.goto 4, 3) := by decide +kernel
theorem dX1_draw_38 : decode cX1_draw 38 = .ok (.iconst 0, 1) := by decide +kernel
theorem dX1_draw_39 : decode cX1_draw 39 = .ok (.ireturn, 1) := by decide +kernel
theorem dX1_driftOnce_0 : decode cX1_driftOnce 0 = .ok (.aload_n 0, 1) := by decide +kernel
theorem dX1_driftOnce_1 : decode cX1_driftOnce 1 = .ok (.iconst 5, 1) := by decide +kernel
theorem dX1_driftOnce_2 : decode cX1_driftOnce 2 = .ok (.invokevirtual 22, 3) := by decide +kernel
theorem dX1_driftOnce_5 : decode cX1_driftOnce 5 = .ok (.istore_n 2, 1) := by decide +kernel
theorem dX1_driftOnce_6 : decode cX1_driftOnce 6 = .ok (.aload_n 0, 1) := by decide +kernel
theorem dX1_driftOnce_7 : decode cX1_driftOnce 7 = .ok (.aload_n 1, 1) := by decide +kernel
theorem dX1_driftOnce_8 : decode cX1_driftOnce 8 = .ok (.getfield 26, 3) := by decide +kernel
theorem dX1_driftOnce_11 : decode cX1_driftOnce 11 = .ok (.invokevirtual 22, 3) := by decide +kernel
theorem dX1_driftOnce_14 : decode cX1_driftOnce 14 = .ok (.istore_n 3, 1) := by decide +kernel
theorem dX1_driftOnce_15 : decode cX1_driftOnce 15 = .ok (.aload_n 1, 1) := by decide +kernel
theorem dX1_driftOnce_16 : decode cX1_driftOnce 16 = .ok (.iload_n 3, 1) := by decide +kernel
theorem dX1_driftOnce_17 : decode cX1_driftOnce 17 = .ok (.invokevirtual 31, 3) := by decide +kernel
theorem dX1_driftOnce_20 : decode cX1_driftOnce 20 = .ok (.astore 4, 2) := by decide +kernel
theorem dX1_driftOnce_22 : decode cX1_driftOnce 22 = .ok (.aload 4, 2) := by decide +kernel
theorem dX1_driftOnce_24 : decode cX1_driftOnce 24 = .ok (.ifnonnull 4, 3) := by decide +kernel
theorem dX1_driftOnce_27 : decode cX1_driftOnce 27 = .ok (.return_, 1) := by decide +kernel
theorem dX1_driftOnce_28 : decode cX1_driftOnce 28 = .ok (.iload_n 2, 1) := by decide +kernel
theorem dX1_driftOnce_29 : decode cX1_driftOnce 29 = .ok (.iconst 2, 1) := by decide +kernel
theorem dX1_driftOnce_30 : decode cX1_driftOnce 30 = .ok (.if_icmp .gt 10, 3) := by decide +kernel
theorem dX1_driftOnce_33 : decode cX1_driftOnce 33 = .ok (.aload_n 1, 1) := by decide +kernel
theorem dX1_driftOnce_34 : decode cX1_driftOnce 34 = .ok (.iload_n 3, 1) := by decide +kernel
theorem dX1_driftOnce_35 : decode cX1_driftOnce 35 = .ok (.invokevirtual 35, 3) := by decide +kernel
theorem dX1_driftOnce_38 : decode cX1_driftOnce 38 = .ok (.pop, 1) := by decide +kernel
theorem dX1_driftOnce_39 : decode cX1_driftOnce 39 = .ok (.return_, 1) := by decide +kernel
theorem dX1_driftOnce_40 : decode cX1_driftOnce 40 = .ok (.aload_n 0, 1) := by decide +kernel
theorem dX1_driftOnce_41 : decode cX1_driftOnce 41 = .ok (.aload 4, 2) := by decide +kernel
theorem dX1_driftOnce_43 : decode cX1_driftOnce 43 = .ok (.getfield 38, 3) := by decide +kernel
theorem dX1_driftOnce_46 : decode cX1_driftOnce 46 = .ok (.invokevirtual 22, 3) := by decide +kernel
theorem dX1_driftOnce_49 : decode cX1_driftOnce 49 = .ok (.istore 5, 2) := by decide +kernel
theorem dX1_driftOnce_51 : decode cX1_driftOnce 51 = .ok (.aload 4, 2) := by decide +kernel
theorem dX1_driftOnce_53 : decode cX1_driftOnce 53 = .ok (.iload 5, 2) := by decide +kernel
theorem dX1_driftOnce_55 : decode cX1_driftOnce 55 = .ok (.invokevirtual 43, 3) := by decide +kernel
theorem dX1_driftOnce_58 : decode cX1_driftOnce 58 = .ok (.ifCond .eq 24, 3) := by decide +kernel
theorem dX1_driftOnce_61 : decode cX1_driftOnce 61 = .ok (.aload 4, 2) := by decide +kernel
theorem dX1_driftOnce_63 : decode cX1_driftOnce 63 = .ok (.getfield 47, 3) := by decide +kernel
theorem dX1_driftOnce_66 : decode cX1_driftOnce 66 = .ok (.iload 5, 2) := by decide +kernel
theorem dX1_driftOnce_68 : decode cX1_driftOnce 68 = .ok (.iaload, 1) := by decide +kernel
theorem dX1_driftOnce_69 : decode cX1_driftOnce 69 = .ok (.iconst 1, 1) := by decide +kernel
theorem dX1_driftOnce_70 : decode cX1_driftOnce 70 = .ok (.if_icmp .ne 12, 3) := by decide +kernel
theorem dX1_driftOnce_73 : decode cX1_driftOnce 73 = .ok (.aload_n 1, 1) := by decide +kernel
theorem dX1_driftOnce_74 : decode cX1_driftOnce 74 = .ok (.aload 4, 2) := by decide +kernel
theorem dX1_driftOnce_76 : decode cX1_driftOnce 76 = .ok (.iload 5, 2) := by decide +kernel
theorem dX1_driftOnce_78 : decode cX1_driftOnce 78 = .ok (.invokevirtual 51, 3) := by decide +kernel
theorem dX1_driftOnce_81 : decode cX1_driftOnce 81 = .ok (.pop, 1) := by decide +kernel
theorem dX1_driftOnce_82 : decode cX1_driftOnce 82 = .ok (.return_, 1) := by decide +kernel
theorem dX2_init_0 : decode cX2_init 0 = .ok (.aload_n 0, 1) := by decide +kernel
theorem dX2_init_1 : decode cX2_init 1 = .ok (.invokespecial 1, 3) := by decide +kernel
theorem dX2_init_4 : decode cX2_init 4 = .ok (.aload_n 0, 1) := by decide +kernel
theorem dX2_init_5 : decode cX2_init 5 = .ok (.lconst 1, 1) := by decide +kernel
theorem dX2_init_6 : decode cX2_init 6 = .ok (.putfield 7, 3) := by decide +kernel
theorem dX2_init_9 : decode cX2_init 9 = .ok (.return_, 1) := by decide +kernel
theorem dX2_become_0 : decode cX2_become 0 = .ok (.lload_n 1, 1) := by decide +kernel
theorem dX2_become_1 : decode cX2_become 1 = .ok (.invokestatic 13, 3) := by decide +kernel
theorem dX2_become_4 : decode cX2_become 4 = .ok (.lload_n 3, 1) := by decide +kernel
theorem dX2_become_5 : decode cX2_become 5 = .ok (.invokestatic 13, 3) := by decide +kernel
theorem dX2_become_8 : decode cX2_become 8 = .ok (.invokestatic 19, 3) := by decide +kernel
theorem dX2_become_11 : decode cX2_become 11 = .ok (.lstore 5, 2) := by decide +kernel
theorem dX2_become_13 : decode cX2_become 13 = .ok (.lload_n 3, 1) := by decide +kernel
theorem dX2_become_14 : decode cX2_become 14 = .ok (.lconst 0, 1) := by decide +kernel
theorem dX2_become_15 : decode cX2_become 15 = .ok (.lcmp, 1) := by decide +kernel
theorem dX2_become_16 : decode cX2_become 16 = .ok (.ifCond .eq 10, 3) := by decide +kernel
theorem dX2_become_19 : decode cX2_become 19 = .ok (.lload 5, 2) := by decide +kernel
theorem dX2_become_21 : decode cX2_become 21 = .ok (.lconst 0, 1) := by decide +kernel
theorem dX2_become_22 : decode cX2_become 22 = .ok (.lcmp, 1) := by decide +kernel
theorem dX2_become_23 : decode cX2_become 23 = .ok (.ifCond .ne 14, 3) := by decide +kernel
theorem dX2_become_26 : decode cX2_become 26 = .ok (.aload_n 0, 1) := by decide +kernel
theorem dX2_become_27 : decode cX2_become 27 = .ok (.lconst 0, 1) := by decide +kernel
theorem dX2_become_28 : decode cX2_become 28 = .ok (.putfield 23, 3) := by decide +kernel
theorem dX2_become_31 : decode cX2_become 31 = .ok (.aload_n 0, 1) := by decide +kernel
theorem dX2_become_32 : decode cX2_become 32 = .ok (.lconst 1, 1) := by decide +kernel
theorem dX2_become_33 : decode cX2_become 33 = .ok (.putfield 7, 3) := by decide +kernel
theorem dX2_become_36 : decode cX2_become 36 = .ok (.return_, 1) := by decide +kernel
theorem dX2_become_37 : decode cX2_become 37 = .ok (.lload_n 3, 1) := by decide +kernel
theorem dX2_become_38 : decode cX2_become 38 = .ok (.lconst 0, 1) := by decide +kernel
theorem dX2_become_39 : decode cX2_become 39 = .ok (.lcmp, 1) := by decide +kernel
theorem dX2_become_40 : decode cX2_become 40 = .ok (.ifCond .ge 9, 3) := by decide +kernel
theorem dX2_become_43 : decode cX2_become 43 = .ok (.lload 5, 2) := by decide +kernel
theorem dX2_become_45 : decode cX2_become 45 = .ok (.lneg, 1) := by decide +kernel
theorem dX2_become_46 : decode cX2_become 46 = .ok (.goto 5, 3) := by decide +kernel
theorem dX2_become_49 : decode cX2_become 49 = .ok (.lload 5, 2) := by decide +kernel
theorem dX2_become_51 : decode cX2_become 51 = .ok (.lstore 7, 2) := by decide +kernel
theorem dX2_become_53 : decode cX2_become 53 = .ok (.aload_n 0, 1) := by decide +kernel
theorem dX2_become_54 : decode cX2_become 54 = .ok (.lload_n 1, 1) := by decide +kernel
theorem dX2_become_55 : decode cX2_become 55 = .ok (.lload 7, 2) := by decide +kernel
theorem dX2_become_57 : decode cX2_become 57 = .ok (.ldiv, 1) := by decide +kernel
theorem dX2_become_58 : decode cX2_become 58 = .ok (.putfield 23, 3) := by decide +kernel
theorem dX2_become_61 : decode cX2_become 61 = .ok (.aload_n 0, 1) := by decide +kernel
theorem dX2_become_62 : decode cX2_become 62 = .ok (.lload_n 3, 1) := by decide +kernel
theorem dX2_become_63 : decode cX2_become 63 = .ok (.lload 7, 2) := by decide +kernel
theorem dX2_become_65 : decode cX2_become 65 = .ok (.ldiv, 1) := by decide +kernel
theorem dX2_become_66 : decode cX2_become 66 = .ok (.putfield 7, 3) := by decide +kernel
theorem dX2_become_69 : decode cX2_become 69 = .ok (.return_, 1) := by decide +kernel
theorem dX2_commonDivisor_0 : decode cX2_commonDivisor 0 = .ok (.lload_n 0, 1) := by decide +kernel
theorem dX2_commonDivisor_1 : decode cX2_commonDivisor 1 = .ok (.lstore 4, 2) := by decide +kernel
theorem dX2_commonDivisor_3 : decode cX2_commonDivisor 3 = .ok (.lload_n 2, 1) := by decide +kernel
theorem dX2_commonDivisor_4 : decode cX2_commonDivisor 4 = .ok (.lstore 6, 2) := by decide +kernel
theorem dX2_commonDivisor_6 : decode cX2_commonDivisor 6 = .ok (.iconst 0, 1) := by decide +kernel
theorem dX2_commonDivisor_7 : decode cX2_commonDivisor 7 = .ok (.istore 8, 2) := by decide +kernel
theorem dX2_commonDivisor_9 : decode cX2_commonDivisor 9 = .ok (.iload 8, 2) := by decide +kernel
theorem dX2_commonDivisor_11 : decode cX2_commonDivisor 11 = .ok (.bipush 100, 2) := by decide +kernel
theorem dX2_commonDivisor_13 : decode cX2_commonDivisor 13 = .ok (.if_icmp .ge 31, 3) := by decide +kernel
theorem dX2_commonDivisor_16 : decode cX2_commonDivisor 16 = .ok (.lload 6, 2) := by decide +kernel
theorem dX2_commonDivisor_18 : decode cX2_commonDivisor 18 = .ok (.lconst 0, 1) := by decide +kernel
theorem dX2_commonDivisor_19 : decode cX2_commonDivisor 19 = .ok (.lcmp, 1) := by decide +kernel
theorem dX2_commonDivisor_20 : decode cX2_commonDivisor 20 = .ok (.ifCond .eq 24, 3) := by decide +kernel
theorem dX2_commonDivisor_23 : decode cX2_commonDivisor 23 = .ok (.lload 4, 2) := by decide +kernel
theorem dX2_commonDivisor_25 : decode cX2_commonDivisor 25 = .ok (.lload 6, 2) := by decide +kernel
theorem dX2_commonDivisor_27 : decode cX2_commonDivisor 27 = .ok (.lrem, 1) := by decide +kernel
theorem dX2_commonDivisor_28 : decode cX2_commonDivisor 28 = .ok (.lstore 9, 2) := by decide +kernel
theorem dX2_commonDivisor_30 : decode cX2_commonDivisor 30 = .ok (.lload 6, 2) := by decide +kernel
theorem dX2_commonDivisor_32 : decode cX2_commonDivisor 32 = .ok (.lstore 4, 2) := by decide +kernel
theorem dX2_commonDivisor_34 : decode cX2_commonDivisor 34 = .ok (.lload 9, 2) := by decide +kernel
theorem dX2_commonDivisor_36 : decode cX2_commonDivisor 36 = .ok (.lstore 6, 2) := by decide +kernel
theorem dX2_commonDivisor_38 : decode cX2_commonDivisor 38 = .ok (.iinc 8 1, 3) := by decide +kernel
theorem dX2_commonDivisor_41 : decode cX2_commonDivisor 41 = .ok (.goto (-32), 3) := by decide +kernel
theorem dX2_commonDivisor_44 : decode cX2_commonDivisor 44 = .ok (.lload 4, 2) := by decide +kernel
theorem dX2_commonDivisor_46 : decode cX2_commonDivisor 46 = .ok (.lreturn, 1) := by decide +kernel
theorem dX2_part_0 : decode cX2_part 0 = .ok (.iload_n 1, 1) := by decide +kernel
theorem dX2_part_1 : decode cX2_part 1 = .ok (.ifCond .ne 10, 3) := by decide +kernel
theorem dX2_part_4 : decode cX2_part 4 = .ok (.aload_n 0, 1) := by decide +kernel
theorem dX2_part_5 : decode cX2_part 5 = .ok (.getfield 23, 3) := by decide +kernel
theorem dX2_part_8 : decode cX2_part 8 = .ok (.goto 7, 3) := by decide +kernel
theorem dX2_part_11 : decode cX2_part 11 = .ok (.aload_n 0, 1) := by decide +kernel
theorem dX2_part_12 : decode cX2_part 12 = .ok (.getfield 7, 3) := by decide +kernel
theorem dX2_part_15 : decode cX2_part 15 = .ok (.lreturn, 1) := by decide +kernel
theorem dX2_spreadFromMean_0 : decode cX2_spreadFromMean 0 = .ok (.aload_n 0, 1) := by decide +kernel
theorem dX2_spreadFromMean_1 : decode cX2_spreadFromMean 1 = .ok (.getfield 23, 3) := by decide +kernel
theorem dX2_spreadFromMean_4 : decode cX2_spreadFromMean 4 = .ok (.lstore_n 3, 1) := by decide +kernel
theorem dX2_spreadFromMean_5 : decode cX2_spreadFromMean 5 = .ok (.aload_n 0, 1) := by decide +kernel
theorem dX2_spreadFromMean_6 : decode cX2_spreadFromMean 6 = .ok (.getfield 7, 3) := by decide +kernel
theorem dX2_spreadFromMean_9 : decode cX2_spreadFromMean 9 = .ok (.lstore 5, 2) := by decide +kernel
theorem dX2_spreadFromMean_11 : decode cX2_spreadFromMean 11 = .ok (.iload_n 1, 1) := by decide +kernel
theorem dX2_spreadFromMean_12 : decode cX2_spreadFromMean 12 = .ok (.iconst 1, 1) := by decide +kernel
theorem dX2_spreadFromMean_13 : decode cX2_spreadFromMean 13 = .ok (.iadd, 1) := by decide +kernel
theorem dX2_spreadFromMean_14 : decode cX2_spreadFromMean 14 = .ok (.iload_n 2, 1) := by decide +kernel
theorem dX2_spreadFromMean_15 : decode cX2_spreadFromMean 15 = .ok (.isub, 1) := by decide +kernel
theorem dX2_spreadFromMean_16 : decode cX2_spreadFromMean 16 = .ok (.i2l, 1) := by decide +kernel
theorem dX2_spreadFromMean_17 : decode cX2_spreadFromMean 17 = .ok (.lload 5, 2) := by decide +kernel
theorem dX2_spreadFromMean_19 : decode cX2_spreadFromMean 19 = .ok (.lmul, 1) := by decide +kernel
theorem dX2_spreadFromMean_20 : decode cX2_spreadFromMean 20 = .ok (.lload_n 3, 1) := by decide +kernel
theorem dX2_spreadFromMean_21 : decode cX2_spreadFromMean 21 = .ok (.ladd, 1) := by decide +kernel
theorem dX2_spreadFromMean_22 : decode cX2_spreadFromMean 22 = .ok (.lstore 7, 2) := by decide +kernel
theorem dX2_spreadFromMean_24 : decode cX2_spreadFromMean 24 = .ok (.aload_n 0, 1) := by decide +kernel
theorem dX2_spreadFromMean_25 : decode cX2_spreadFromMean 25 = .ok (.lload_n 3, 1) := by decide +kernel
theorem dX2_spreadFromMean_26 : decode cX2_spreadFromMean 26 = .ok (.lload 5, 2) := by decide +kernel
theorem dX2_spreadFromMean_28 : decode cX2_spreadFromMean 28 = .ok (.lload_n 3, 1) := by decide +kernel
theorem dX2_spreadFromMean_29 : decode cX2_spreadFromMean 29 = .ok (.lsub, 1) := by decide +kernel
theorem dX2_spreadFromMean_30 : decode cX2_spreadFromMean 30 = .ok (.lload 7, 2) := by decide +kernel
theorem dX2_spreadFromMean_32 : decode cX2_spreadFromMean 32 = .ok (.lmul, 1) := by decide +kernel
theorem dX2_spreadFromMean_33 : decode cX2_spreadFromMean 33 = .ok (.iload_n 2, 1) := by decide +kernel
theorem dX2_spreadFromMean_34 : decode cX2_spreadFromMean 34 = .ok (.i2l, 1) := by decide +kernel
theorem dX2_spreadFromMean_35 : decode cX2_spreadFromMean 35 = .ok (.lload 5, 2) := by decide +kernel
theorem dX2_spreadFromMean_37 : decode cX2_spreadFromMean 37 = .ok (.lmul, 1) := by decide +kernel
theorem dX2_spreadFromMean_38 : decode cX2_spreadFromMean 38 = .ok (.lload 5, 2) := by decide +kernel
theorem dX2_spreadFromMean_40 : decode cX2_spreadFromMean 40 = .ok (.lmul, 1) := by decide +kernel
theorem dX2_spreadFromMean_41 : decode cX2_spreadFromMean 41 = .ok (.ladd, 1) := by decide +kernel
theorem dX2_spreadFromMean_42 : decode cX2_spreadFromMean 42 = .ok (.lmul, 1) := by decide +kernel
theorem dX2_spreadFromMean_43 : decode cX2_spreadFromMean 43 = .ok (.lload 5, 2) := by decide +kernel
theorem dX2_spreadFromMean_45 : decode cX2_spreadFromMean 45 = .ok (.lload 5, 2) := by decide +kernel
theorem dX2_spreadFromMean_47 : decode cX2_spreadFromMean 47 = .ok (.lmul, 1) := by decide +kernel
theorem dX2_spreadFromMean_48 : decode cX2_spreadFromMean 48 = .ok (.lload 7, 2) := by decide +kernel
theorem dX2_spreadFromMean_50 : decode cX2_spreadFromMean 50 = .ok (.lmul, 1) := by decide +kernel
theorem dX2_spreadFromMean_51 : decode cX2_spreadFromMean 51 = .ok (.invokevirtual 26, 3) := by decide +kernel
theorem dX2_spreadFromMean_54 : decode cX2_spreadFromMean 54 = .ok (.return_, 1) := by decide +kernel
theorem dX3_init_0 : decode cX3_init 0 = .ok (.aload_n 0, 1) := by decide +kernel
theorem dX3_init_1 : decode cX3_init 1 = .ok (.invokespecial 3, 3) := by decide +kernel
theorem dX3_init_4 : decode cX3_init 4 = .ok (.aload_n 0, 1) := by decide +kernel
theorem dX3_init_5 : decode cX3_init 5 = .ok (.bipush 6, 2) := by decide +kernel
theorem dX3_init_7 : decode cX3_init 7 = .ok (.newarray .int, 2) := by decide +kernel
theorem dX3_init_9 : decode cX3_init 9 = .ok (.putfield 9, 3) := by decide +kernel
theorem dX3_init_12 : decode cX3_init 12 = .ok (.aload_n 0, 1) := by decide +kernel
theorem dX3_init_13 : decode cX3_init 13 = .ok (.bipush 6, 2) := by decide +kernel
theorem dX3_init_15 : decode cX3_init 15 = .ok (.newarray .int, 2) := by decide +kernel
theorem dX3_init_17 : decode cX3_init 17 = .ok (.putfield 15, 3) := by decide +kernel
theorem dX3_init_20 : decode cX3_init 20 = .ok (.aload_n 0, 1) := by decide +kernel
theorem dX3_init_21 : decode cX3_init 21 = .ok (.bipush 6, 2) := by decide +kernel
theorem dX3_init_23 : decode cX3_init 23 = .ok (.newarray .int, 2) := by decide +kernel
theorem dX3_init_25 : decode cX3_init 25 = .ok (.putfield 18, 3) := by decide +kernel
theorem dX3_init_28 : decode cX3_init 28 = .ok (.aload_n 0, 1) := by decide +kernel
theorem dX3_init_29 : decode cX3_init 29 = .ok (.bipush 6, 2) := by decide +kernel
theorem dX3_init_31 : decode cX3_init 31 = .ok (.newarray .int, 2) := by decide +kernel
theorem dX3_init_33 : decode cX3_init 33 = .ok (.putfield 21, 3) := by decide +kernel
theorem dX3_init_36 : decode cX3_init 36 = .ok (.return_, 1) := by decide +kernel
theorem dX3_begin_0 : decode cX3_begin 0 = .ok (.aload_n 0, 1) := by decide +kernel
theorem dX3_begin_1 : decode cX3_begin 1 = .ok (.iconst 3, 1) := by decide +kernel
theorem dX3_begin_2 : decode cX3_begin 2 = .ok (.putfield 24, 3) := by decide +kernel
theorem dX3_begin_5 : decode cX3_begin 5 = .ok (.aload_n 0, 1) := by decide +kernel
theorem dX3_begin_6 : decode cX3_begin 6 = .ok (.iconst 2, 1) := by decide +kernel
theorem dX3_begin_7 : decode cX3_begin 7 = .ok (.putfield 28, 3) := by decide +kernel
theorem dX3_begin_10 : decode cX3_begin 10 = .ok (.aload_n 0, 1) := by decide +kernel
theorem dX3_begin_11 : decode cX3_begin 11 = .ok (.iconst 0, 1) := by decide +kernel
theorem dX3_begin_12 : decode cX3_begin 12 = .ok (.putfield 31, 3) := by decide +kernel
theorem dX3_begin_15 : decode cX3_begin 15 = .ok (.aload_n 0, 1) := by decide +kernel
theorem dX3_begin_16 : decode cX3_begin 16 = .ok (.iconst (-1), 1) := by decide +kernel
theorem dX3_begin_17 : decode cX3_begin 17 = .ok (.putfield 34, 3) := by decide +kernel
theorem dX3_begin_20 : decode cX3_begin 20 = .ok (.aload_n 0, 1) := by decide +kernel
theorem dX3_begin_21 : decode cX3_begin 21 = .ok (.iconst 0, 1) := by decide +kernel
theorem dX3_begin_22 : decode cX3_begin 22 = .ok (.putfield 37, 3) := by decide +kernel
theorem dX3_begin_25 : decode cX3_begin 25 = .ok (.aload_n 0, 1) := by decide +kernel
theorem dX3_begin_26 : decode cX3_begin 26 = .ok (.iconst 0, 1) := by decide +kernel
theorem dX3_begin_27 : decode cX3_begin 27 = .ok (.putfield 40, 3) := by decide +kernel
theorem dX3_begin_30 : decode cX3_begin 30 = .ok (.aload_n 0, 1) := by decide +kernel
theorem dX3_begin_31 : decode cX3_begin 31 = .ok (.iconst 0, 1) := by decide +kernel
theorem dX3_begin_32 : decode cX3_begin 32 = .ok (.putfield 43, 3) := by decide +kernel
theorem dX3_begin_35 : decode cX3_begin 35 = .ok (.aload_n 0, 1) := by decide +kernel
theorem dX3_begin_36 : decode cX3_begin 36 = .ok (.iconst 0, 1) := by decide +kernel
theorem dX3_begin_37 : decode cX3_begin 37 = .ok (.putfield 46, 3) := by decide +kernel
theorem dX3_begin_40 : decode cX3_begin 40 = .ok (.aload_n 0, 1) := by decide +kernel
theorem dX3_begin_41 : decode cX3_begin 41 = .ok (.iconst 0, 1) := by decide +kernel
theorem dX3_begin_42 : decode cX3_begin 42 = .ok (.putfield 49, 3) := by decide +kernel
theorem dX3_begin_45 : decode cX3_begin 45 = .ok (.aload_n 0, 1) := by decide +kernel
theorem dX3_begin_46 : decode cX3_begin 46 = .ok (.invokevirtual 52, 3) := by decide +kernel
theorem dX3_begin_49 : decode cX3_begin 49 = .ok (.return_, 1) := by decide +kernel
theorem dX3_freeAllLines_0 : decode cX3_freeAllLines 0 = .ok (.aload_n 0, 1) := by decide +kernel
theorem dX3_freeAllLines_1 : decode cX3_freeAllLines 1 = .ok (.iconst 0, 1) := by decide +kernel
theorem dX3_freeAllLines_2 : decode cX3_freeAllLines 2 = .ok (.putfield 55, 3) := by decide +kernel
theorem dX3_freeAllLines_5 : decode cX3_freeAllLines 5 = .ok (.aload_n 0, 1) := by decide +kernel
theorem dX3_freeAllLines_6 : decode cX3_freeAllLines 6 = .ok (.getfield 9, 3) := by decide +kernel
theorem dX3_freeAllLines_9 : decode cX3_freeAllLines 9 = .ok (.iconst 0, 1) := by decide +kernel
theorem dX3_freeAllLines_10 : decode cX3_freeAllLines 10 = .ok (.invokestatic 58, 3) := by decide +kernel
theorem dX3_freeAllLines_13 : decode cX3_freeAllLines 13 = .ok (.aload_n 0, 1) := by decide +kernel
theorem dX3_freeAllLines_14 : decode cX3_freeAllLines 14 = .ok (.getfield 15, 3) := by decide +kernel
theorem dX3_freeAllLines_17 : decode cX3_freeAllLines 17 = .ok (.iconst (-1), 1) := by decide +kernel
theorem dX3_freeAllLines_18 : decode cX3_freeAllLines 18 = .ok (.invokestatic 58, 3) := by decide +kernel
theorem dX3_freeAllLines_21 : decode cX3_freeAllLines 21 = .ok (.aload_n 0, 1) := by decide +kernel
theorem dX3_freeAllLines_22 : decode cX3_freeAllLines 22 = .ok (.getfield 18, 3) := by decide +kernel
theorem dX3_freeAllLines_25 : decode cX3_freeAllLines 25 = .ok (.iconst (-1), 1) := by decide +kernel
theorem dX3_freeAllLines_26 : decode cX3_freeAllLines 26 = .ok (.invokestatic 58, 3) := by decide +kernel
theorem dX3_freeAllLines_29 : decode cX3_freeAllLines 29 = .ok (.aload_n 0, 1) := by decide +kernel
theorem dX3_freeAllLines_30 : decode cX3_freeAllLines 30 = .ok (.getfield 21, 3) := by decide +kernel
theorem dX3_freeAllLines_33 : decode cX3_freeAllLines 33 = .ok (.iconst 0, 1) := by decide +kernel
theorem dX3_freeAllLines_34 : decode cX3_freeAllLines 34 = .ok (.invokestatic 58, 3) := by decide +kernel
theorem dX3_freeAllLines_37 : decode cX3_freeAllLines 37 = .ok (.return_, 1) := by decide +kernel
theorem dX3_copyFrom_0 : decode cX3_copyFrom 0 = .ok (.aload_n 0, 1) := by decide +kernel
theorem dX3_copyFrom_1 : decode cX3_copyFrom 1 = .ok (.aload_n 1, 1) := by decide +kernel
theorem dX3_copyFrom_2 : decode cX3_copyFrom 2 = .ok (.getfield 24, 3) := by decide +kernel
theorem dX3_copyFrom_5 : decode cX3_copyFrom 5 = .ok (.putfield 24, 3) := by decide +kernel
theorem dX3_copyFrom_8 : decode cX3_copyFrom 8 = .ok (.aload_n 0, 1) := by decide +kernel
theorem dX3_copyFrom_9 : decode cX3_copyFrom 9 = .ok (.aload_n 1, 1) := by decide +kernel
theorem dX3_copyFrom_10 : decode cX3_copyFrom 10 = .ok (.getfield 28, 3) := by decide +kernel
theorem dX3_copyFrom_13 : decode cX3_copyFrom 13 = .ok (.putfield 28, 3) := by decide +kernel
theorem dX3_copyFrom_16 : decode cX3_copyFrom 16 = .ok (.aload_n 0, 1) := by decide +kernel
theorem dX3_copyFrom_17 : decode cX3_copyFrom 17 = .ok (.aload_n 1, 1) := by decide +kernel
theorem dX3_copyFrom_18 : decode cX3_copyFrom 18 = .ok (.getfield 31, 3) := by decide +kernel
theorem dX3_copyFrom_21 : decode cX3_copyFrom 21 = .ok (.putfield 31, 3) := by decide +kernel
theorem dX3_copyFrom_24 : decode cX3_copyFrom 24 = .ok (.aload_n 0, 1) := by decide +kernel
theorem dX3_copyFrom_25 : decode cX3_copyFrom 25 = .ok (.aload_n 1, 1) := by decide +kernel
theorem dX3_copyFrom_26 : decode cX3_copyFrom 26 = .ok (.getfield 34, 3) := by decide +kernel
theorem dX3_copyFrom_29 : decode cX3_copyFrom 29 = .ok (.putfield 34, 3) := by decide +kernel
theorem dX3_copyFrom_32 : decode cX3_copyFrom 32 = .ok (.aload_n 0, 1) := by decide +kernel
theorem dX3_copyFrom_33 : decode cX3_copyFrom 33 = .ok (.aload_n 1, 1) := by decide +kernel
theorem dX3_copyFrom_34 : decode cX3_copyFrom 34 = .ok (.getfield 37, 3) := by decide +kernel
theorem dX3_copyFrom_37 : decode cX3_copyFrom 37 = .ok (.putfield 37, 3) := by decide +kernel
theorem dX3_copyFrom_40 : decode cX3_copyFrom 40 = .ok (.aload_n 0, 1) := by decide +kernel
theorem dX3_copyFrom_41 : decode cX3_copyFrom 41 = .ok (.aload_n 1, 1) := by decide +kernel
theorem dX3_copyFrom_42 : decode cX3_copyFrom 42 = .ok (.getfield 40, 3) := by decide +kernel
theorem dX3_copyFrom_45 : decode cX3_copyFrom 45 = .ok (.putfield 40, 3) := by decide +kernel
theorem dX3_copyFrom_48 : decode cX3_copyFrom 48 = .ok (.aload_n 0, 1) := by decide +kernel
theorem dX3_copyFrom_49 : decode cX3_copyFrom 49 = .ok (.aload_n 1, 1) := by decide +kernel
theorem dX3_copyFrom_50 : decode cX3_copyFrom 50 = .ok (.getfield 43, 3) := by decide +kernel
theorem dX3_copyFrom_53 : decode cX3_copyFrom 53 = .ok (.putfield 43, 3) := by decide +kernel
theorem dX3_copyFrom_56 : decode cX3_copyFrom 56 = .ok (.aload_n 0, 1) := by decide +kernel
theorem dX3_copyFrom_57 : decode cX3_copyFrom 57 = .ok (.aload_n 1, 1) := by decide +kernel
theorem dX3_copyFrom_58 : decode cX3_copyFrom 58 = .ok (.getfield 46, 3) := by decide +kernel
theorem dX3_copyFrom_61 : decode cX3_copyFrom 61 = .ok (.putfield 46, 3) := by decide +kernel
theorem dX3_copyFrom_64 : decode cX3_copyFrom 64 = .ok (.aload_n 0, 1) := by decide +kernel
theorem dX3_copyFrom_65 : decode cX3_copyFrom 65 = .ok (.aload_n 1, 1) := by decide +kernel
theorem dX3_copyFrom_66 : decode cX3_copyFrom 66 = .ok (.getfield 49, 3) := by decide +kernel
theorem dX3_copyFrom_69 : decode cX3_copyFrom 69 = .ok (.putfield 49, 3) := by decide +kernel
theorem dX3_copyFrom_72 : decode cX3_copyFrom 72 = .ok (.aload_n 0, 1) := by decide +kernel
theorem dX3_copyFrom_73 : decode cX3_copyFrom 73 = .ok (.aload_n 1, 1) := by decide +kernel
theorem dX3_copyFrom_74 : decode cX3_copyFrom 74 = .ok (.getfield 55, 3) := by decide +kernel
theorem dX3_copyFrom_77 : decode cX3_copyFrom 77 = .ok (.putfield 55, 3) := by decide +kernel
theorem dX3_copyFrom_80 : decode cX3_copyFrom 80 = .ok (.aload_n 1, 1) := by decide +kernel
theorem dX3_copyFrom_81 : decode cX3_copyFrom 81 = .ok (.getfield 9, 3) := by decide +kernel
theorem dX3_copyFrom_84 : decode cX3_copyFrom 84 = .ok (.iconst 0, 1) := by decide +kernel
theorem dX3_copyFrom_85 : decode cX3_copyFrom 85 = .ok (.aload_n 0, 1) := by decide +kernel
theorem dX3_copyFrom_86 : decode cX3_copyFrom 86 = .ok (.getfield 9, 3) := by decide +kernel
theorem dX3_copyFrom_89 : decode cX3_copyFrom 89 = .ok (.iconst 0, 1) := by decide +kernel
theorem dX3_copyFrom_90 : decode cX3_copyFrom 90 = .ok (.bipush 6, 2) := by decide +kernel
theorem dX3_copyFrom_92 : decode cX3_copyFrom 92 = .ok (.invokestatic 64, 3) := by decide +kernel
theorem dX3_copyFrom_95 : decode cX3_copyFrom 95 = .ok (.aload_n 1, 1) := by decide +kernel
theorem dX3_copyFrom_96 : decode cX3_copyFrom 96 = .ok (.getfield 15, 3) := by decide +kernel
theorem dX3_copyFrom_99 : decode cX3_copyFrom 99 = .ok (.iconst 0, 1) := by decide +kernel
theorem dX3_copyFrom_100 : decode cX3_copyFrom 100 = .ok (.aload_n 0, 1) := by decide +kernel
theorem dX3_copyFrom_101 : decode cX3_copyFrom 101 = .ok (.getfield 15, 3) := by decide +kernel
theorem dX3_copyFrom_104 : decode cX3_copyFrom 104 = .ok (.iconst 0, 1) := by decide +kernel
theorem dX3_copyFrom_105 : decode cX3_copyFrom 105 = .ok (.bipush 6, 2) := by decide +kernel
theorem dX3_copyFrom_107 : decode cX3_copyFrom 107 = .ok (.invokestatic 64, 3) := by decide +kernel
theorem dX3_copyFrom_110 : decode cX3_copyFrom 110 = .ok (.aload_n 1, 1) := by decide +kernel
theorem dX3_copyFrom_111 : decode cX3_copyFrom 111 = .ok (.getfield 18, 3) := by decide +kernel
theorem dX3_copyFrom_114 : decode cX3_copyFrom 114 = .ok (.iconst 0, 1) := by decide +kernel
theorem dX3_copyFrom_115 : decode cX3_copyFrom 115 = .ok (.aload_n 0, 1) := by decide +kernel
theorem dX3_copyFrom_116 : decode cX3_copyFrom 116 = .ok (.getfield 18, 3) := by decide +kernel
theorem dX3_copyFrom_119 : decode cX3_copyFrom 119 = .ok (.iconst 0, 1) := by decide +kernel
theorem dX3_copyFrom_120 : decode cX3_copyFrom 120 = .ok (.bipush 6, 2) := by decide +kernel
theorem dX3_copyFrom_122 : decode cX3_copyFrom 122 = .ok (.invokestatic 64, 3) := by decide +kernel
theorem dX3_copyFrom_125 : decode cX3_copyFrom 125 = .ok (.aload_n 1, 1) := by decide +kernel
theorem dX3_copyFrom_126 : decode cX3_copyFrom 126 = .ok (.getfield 21, 3) := by decide +kernel
theorem dX3_copyFrom_129 : decode cX3_copyFrom 129 = .ok (.iconst 0, 1) := by decide +kernel
theorem dX3_copyFrom_130 : decode cX3_copyFrom 130 = .ok (.aload_n 0, 1) := by decide +kernel
theorem dX3_copyFrom_131 : decode cX3_copyFrom 131 = .ok (.getfield 21, 3) := by decide +kernel
theorem dX3_copyFrom_134 : decode cX3_copyFrom 134 = .ok (.iconst 0, 1) := by decide +kernel
theorem dX3_copyFrom_135 : decode cX3_copyFrom 135 = .ok (.bipush 6, 2) := by decide +kernel
theorem dX3_copyFrom_137 : decode cX3_copyFrom 137 = .ok (.invokestatic 64, 3) := by decide +kernel
theorem dX3_copyFrom_140 : decode cX3_copyFrom 140 = .ok (.return_, 1) := by decide +kernel
theorem dX3_hasLine_0 : decode cX3_hasLine 0 = .ok (.iload_n 1, 1) := by decide +kernel
theorem dX3_hasLine_1 : decode cX3_hasLine 1 = .ok (.ifCond .lt 15, 3) := by decide +kernel
theorem dX3_hasLine_4 : decode cX3_hasLine 4 = .ok (.iload_n 1, 1) := by decide +kernel
theorem dX3_hasLine_5 : decode cX3_hasLine 5 = .ok (.aload_n 0, 1) := by decide +kernel
theorem dX3_hasLine_6 : decode cX3_hasLine 6 = .ok (.getfield 24, 3) := by decide +kernel
theorem dX3_hasLine_9 : decode cX3_hasLine 9 = .ok (.if_icmp .ge 7, 3) := by decide +kernel
theorem dX3_hasLine_12 : decode cX3_hasLine 12 = .ok (.iconst 1, 1) := by decide +kernel
theorem dX3_hasLine_13 : decode cX3_hasLine 13 = .ok (.goto 4, 3) := by decide +kernel
theorem dX3_hasLine_16 : decode cX3_hasLine 16 = .ok (.iconst 0, 1) := by decide +kernel
theorem dX3_hasLine_17 : decode cX3_hasLine 17 = .ok (.ireturn, 1) := by decide +kernel
theorem dX3_setOf_0 : decode cX3_setOf 0 = .ok (.iconst 0, 1) := by decide +kernel
theorem dX3_setOf_1 : decode cX3_setOf 1 = .ok (.istore_n 2, 1) := by decide +kernel
theorem dX3_setOf_2 : decode cX3_setOf 2 = .ok (.iconst 0, 1) := by decide +kernel
theorem dX3_setOf_3 : decode cX3_setOf 3 = .ok (.istore_n 3, 1) := by decide +kernel
theorem dX3_setOf_4 : decode cX3_setOf 4 = .ok (.iload_n 3, 1) := by decide +kernel
theorem dX3_setOf_5 : decode cX3_setOf 5 = .ok (.aload_n 0, 1) := by decide +kernel
theorem dX3_setOf_6 : decode cX3_setOf 6 = .ok (.getfield 24, 3) := by decide +kernel
theorem dX3_setOf_9 : decode cX3_setOf 9 = .ok (.if_icmp .ge 25, 3) := by decide +kernel
theorem dX3_setOf_12 : decode cX3_setOf 12 = .ok (.aload_n 0, 1) := by decide +kernel
theorem dX3_setOf_13 : decode cX3_setOf 13 = .ok (.getfield 9, 3) := by decide +kernel
theorem dX3_setOf_16 : decode cX3_setOf 16 = .ok (.iload_n 3, 1) := by decide +kernel
theorem dX3_setOf_17 : decode cX3_setOf 17 = .ok (.iaload, 1) := by decide +kernel
theorem dX3_setOf_18 : decode cX3_setOf 18 = .ok (.iload_n 1, 1) := by decide +kernel
theorem dX3_setOf_19 : decode cX3_setOf 19 = .ok (.if_icmp .ne 9, 3) := by decide +kernel
theorem dX3_setOf_22 : decode cX3_setOf 22 = .ok (.iload_n 2, 1) := by decide +kernel
theorem dX3_setOf_23 : decode cX3_setOf 23 = .ok (.iconst 1, 1) := by decide +kernel
theorem dX3_setOf_24 : decode cX3_setOf 24 = .ok (.iload_n 3, 1) := by decide +kernel
theorem dX3_setOf_25 : decode cX3_setOf 25 = .ok (.ishl, 1) := by decide +kernel
theorem dX3_setOf_26 : decode cX3_setOf 26 = .ok (.ior, 1) := by decide +kernel
theorem dX3_setOf_27 : decode cX3_setOf 27 = .ok (.istore_n 2, 1) := by decide +kernel
theorem dX3_setOf_28 : decode cX3_setOf 28 = .ok (.iinc 3 1, 3) := by decide +kernel
theorem dX3_setOf_31 : decode cX3_setOf 31 = .ok (.goto (-27), 3) := by decide +kernel
theorem dX3_setOf_34 : decode cX3_setOf 34 = .ok (.iload_n 2, 1) := by decide +kernel
theorem dX3_setOf_35 : decode cX3_setOf 35 = .ok (.ireturn, 1) := by decide +kernel
theorem dX3_count_0 : decode cX3_count 0 = .ok (.aload_n 0, 1) := by decide +kernel
theorem dX3_count_1 : decode cX3_count 1 = .ok (.iload_n 1, 1) := by decide +kernel
theorem dX3_count_2 : decode cX3_count 2 = .ok (.invokevirtual 70, 3) := by decide +kernel
theorem dX3_count_5 : decode cX3_count 5 = .ok (.invokestatic 74, 3) := by decide +kernel
theorem dX3_count_8 : decode cX3_count 8 = .ok (.ireturn, 1) := by decide +kernel
theorem dX3_chosenLine_0 : decode cX3_chosenLine 0 = .ok (.aload_n 0, 1) := by decide +kernel
theorem dX3_chosenLine_1 : decode cX3_chosenLine 1 = .ok (.getfield 37, 3) := by decide +kernel
theorem dX3_chosenLine_4 : decode cX3_chosenLine 4 = .ok (.tableswitch 47 1 3 #[28, 33, 38], 28) := by decide +kernel
theorem dX3_chosenLine_32 : decode cX3_chosenLine 32 = .ok (.aload_n 0, 1) := by decide +kernel
theorem dX3_chosenLine_33 : decode cX3_chosenLine 33 = .ok (.invokevirtual 79, 3) := by decide +kernel
theorem dX3_chosenLine_36 : decode cX3_chosenLine 36 = .ok (.ireturn, 1) := by decide +kernel
theorem dX3_chosenLine_37 : decode cX3_chosenLine 37 = .ok (.aload_n 0, 1) := by decide +kernel
theorem dX3_chosenLine_38 : decode cX3_chosenLine 38 = .ok (.invokevirtual 83, 3) := by decide +kernel
theorem dX3_chosenLine_41 : decode cX3_chosenLine 41 = .ok (.ireturn, 1) := by decide +kernel
theorem dX3_chosenLine_42 : decode cX3_chosenLine 42 = .ok (.aload_n 0, 1) := by decide +kernel
theorem dX3_chosenLine_43 : decode cX3_chosenLine 43 = .ok (.aload_n 0, 1) := by decide +kernel
theorem dX3_chosenLine_44 : decode cX3_chosenLine 44 = .ok (.getfield 55, 3) := by decide +kernel
theorem dX3_chosenLine_47 : decode cX3_chosenLine 47 = .ok (.invokevirtual 86, 3) := by decide +kernel
theorem dX3_chosenLine_50 : decode cX3_chosenLine 50 = .ok (.ireturn, 1) := by decide +kernel
theorem dX3_chosenLine_51 : decode cX3_chosenLine 51 = .ok (.aload_n 0, 1) := by decide +kernel
theorem dX3_chosenLine_52 : decode cX3_chosenLine 52 = .ok (.iconst 0, 1) := by decide +kernel
theorem dX3_chosenLine_53 : decode cX3_chosenLine 53 = .ok (.invokevirtual 86, 3) := by decide +kernel
theorem dX3_chosenLine_56 : decode cX3_chosenLine 56 = .ok (.ireturn, 1) := by decide +kernel
theorem dX3_firstFreeFrom_0 : decode cX3_firstFreeFrom 0 = .ok (.iconst 0, 1) := by decide +kernel
theorem dX3_firstFreeFrom_1 : decode cX3_firstFreeFrom 1 = .ok (.istore_n 2, 1) := by decide +kernel
theorem dX3_firstFreeFrom_2 : decode cX3_firstFreeFrom 2 = .ok (.iload_n 2, 1) := by decide +kernel
theorem dX3_firstFreeFrom_3 : decode cX3_firstFreeFrom 3 = .ok (.aload_n 0, 1) := by decide +kernel
theorem dX3_firstFreeFrom_4 : decode cX3_firstFreeFrom 4 = .ok (.getfield 24, 3) := by decide +kernel
theorem dX3_firstFreeFrom_7 : decode cX3_firstFreeFrom 7 = .ok (.if_icmp .ge 29, 3) := by decide +kernel
theorem dX3_firstFreeFrom_10 : decode cX3_firstFreeFrom 10 = .ok (.iload_n 1, 1) := by decide +kernel
theorem dX3_firstFreeFrom_11 : decode cX3_firstFreeFrom 11 = .ok (.iload_n 2, 1) := by decide +kernel
theorem dX3_firstFreeFrom_12 : decode cX3_firstFreeFrom 12 = .ok (.iadd, 1) := by decide +kernel
theorem dX3_firstFreeFrom_13 : decode cX3_firstFreeFrom 13 = .ok (.aload_n 0, 1) := by decide +kernel
theorem dX3_firstFreeFrom_14 : decode cX3_firstFreeFrom 14 = .ok (.getfield 24, 3) := by decide +kernel
theorem dX3_firstFreeFrom_17 : decode cX3_firstFreeFrom 17 = .ok (.irem, 1) := by decide +kernel
theorem dX3_firstFreeFrom_18 : decode cX3_firstFreeFrom 18 = .ok (.istore_n 3, 1) := by decide +kernel
theorem dX3_firstFreeFrom_19 : decode cX3_firstFreeFrom 19 = .ok (.aload_n 0, 1) := by decide +kernel
theorem dX3_firstFreeFrom_20 : decode cX3_firstFreeFrom 20 = .ok (.getfield 9, 3) := by decide +kernel
theorem dX3_firstFreeFrom_23 : decode cX3_firstFreeFrom 23 = .ok (.iload_n 3, 1) := by decide +kernel
theorem dX3_firstFreeFrom_24 : decode cX3_firstFreeFrom 24 = .ok (.iaload, 1) := by decide +kernel
theorem dX3_firstFreeFrom_25 : decode cX3_firstFreeFrom 25 = .ok (.ifCond .ne 5, 3) := by decide +kernel
theorem dX3_firstFreeFrom_28 : decode cX3_firstFreeFrom 28 = .ok (.iload_n 3, 1) := by decide +kernel
theorem dX3_firstFreeFrom_29 : decode cX3_firstFreeFrom 29 = .ok (.ireturn, 1) := by decide +kernel
theorem dX3_firstFreeFrom_30 : decode cX3_firstFreeFrom 30 = .ok (.iinc 2 1, 3) := by decide +kernel
theorem dX3_firstFreeFrom_33 : decode cX3_firstFreeFrom 33 = .ok (.goto (-31), 3) := by decide +kernel
theorem dX3_firstFreeFrom_36 : decode cX3_firstFreeFrom 36 = .ok (.iconst (-1), 1) := by decide +kernel
theorem dX3_firstFreeFrom_37 : decode cX3_firstFreeFrom 37 = .ok (.ireturn, 1) := by decide +kernel
theorem dX3_lastFree_0 : decode cX3_lastFree 0 = .ok (.aload_n 0, 1) := by decide +kernel
theorem dX3_lastFree_1 : decode cX3_lastFree 1 = .ok (.getfield 24, 3) := by decide +kernel
theorem dX3_lastFree_4 : decode cX3_lastFree 4 = .ok (.iconst 1, 1) := by decide +kernel
theorem dX3_lastFree_5 : decode cX3_lastFree 5 = .ok (.isub, 1) := by decide +kernel
theorem dX3_lastFree_6 : decode cX3_lastFree 6 = .ok (.istore_n 1, 1) := by decide +kernel
theorem dX3_lastFree_7 : decode cX3_lastFree 7 = .ok (.iload_n 1, 1) := by decide +kernel
theorem dX3_lastFree_8 : decode cX3_lastFree 8 = .ok (.ifCond .lt 20, 3) := by decide +kernel
theorem dX3_lastFree_11 : decode cX3_lastFree 11 = .ok (.aload_n 0, 1) := by decide +kernel
theorem dX3_lastFree_12 : decode cX3_lastFree 12 = .ok (.getfield 9, 3) := by decide +kernel
theorem dX3_lastFree_15 : decode cX3_lastFree 15 = .ok (.iload_n 1, 1) := by decide +kernel
theorem dX3_lastFree_16 : decode cX3_lastFree 16 = .ok (.iaload, 1) := by decide +kernel
theorem dX3_lastFree_17 : decode cX3_lastFree 17 = .ok (.ifCond .ne 5, 3) := by decide +kernel
theorem dX3_lastFree_20 : decode cX3_lastFree 20 = .ok (.iload_n 1, 1) := by decide +kernel
theorem dX3_lastFree_21 : decode cX3_lastFree 21 = .ok (.ireturn, 1) := by decide +kernel
theorem dX3_lastFree_22 : decode cX3_lastFree 22 = .ok (.iinc 1 (-1), 3) := by decide +kernel
theorem dX3_lastFree_25 : decode cX3_lastFree 25 = .ok (.goto (-18), 3) := by decide +kernel
theorem dX3_lastFree_28 : decode cX3_lastFree 28 = .ok (.iconst (-1), 1) := by decide +kernel
theorem dX3_lastFree_29 : decode cX3_lastFree 29 = .ok (.ireturn, 1) := by decide +kernel
theorem dX3_longestFree_0 : decode cX3_longestFree 0 = .ok (.iconst (-1), 1) := by decide +kernel
theorem dX3_longestFree_1 : decode cX3_longestFree 1 = .ok (.istore_n 1, 1) := by decide +kernel
theorem dX3_longestFree_2 : decode cX3_longestFree 2 = .ok (.iconst 0, 1) := by decide +kernel
theorem dX3_longestFree_3 : decode cX3_longestFree 3 = .ok (.istore_n 2, 1) := by decide +kernel
theorem dX3_longestFree_4 : decode cX3_longestFree 4 = .ok (.iload_n 2, 1) := by decide +kernel
theorem dX3_longestFree_5 : decode cX3_longestFree 5 = .ok (.aload_n 0, 1) := by decide +kernel
theorem dX3_longestFree_6 : decode cX3_longestFree 6 = .ok (.getfield 24, 3) := by decide +kernel
theorem dX3_longestFree_9 : decode cX3_longestFree 9 = .ok (.if_icmp .ge 40, 3) := by decide +kernel
theorem dX3_longestFree_12 : decode cX3_longestFree 12 = .ok (.aload_n 0, 1) := by decide +kernel
theorem dX3_longestFree_13 : decode cX3_longestFree 13 = .ok (.getfield 9, 3) := by decide +kernel
theorem dX3_longestFree_16 : decode cX3_longestFree 16 = .ok (.iload_n 2, 1) := by decide +kernel
theorem dX3_longestFree_17 : decode cX3_longestFree 17 = .ok (.iaload, 1) := by decide +kernel
theorem dX3_longestFree_18 : decode cX3_longestFree 18 = .ok (.ifCond .ne 25, 3) := by decide +kernel
theorem dX3_longestFree_21 : decode cX3_longestFree 21 = .ok (.iload_n 1, 1) := by decide +kernel
theorem dX3_longestFree_22 : decode cX3_longestFree 22 = .ok (.iconst (-1), 1) := by decide +kernel
theorem dX3_longestFree_23 : decode cX3_longestFree 23 = .ok (.if_icmp .eq 18, 3) := by decide +kernel
theorem dX3_longestFree_26 : decode cX3_longestFree 26 = .ok (.aload_n 0, 1) := by decide +kernel
theorem dX3_longestFree_27 : decode cX3_longestFree 27 = .ok (.getfield 21, 3) := by decide +kernel
theorem dX3_longestFree_30 : decode cX3_longestFree 30 = .ok (.iload_n 2, 1) := by decide +kernel
theorem dX3_longestFree_31 : decode cX3_longestFree 31 = .ok (.iaload, 1) := by decide +kernel
theorem dX3_longestFree_32 : decode cX3_longestFree 32 = .ok (.aload_n 0, 1) := by decide +kernel
theorem dX3_longestFree_33 : decode cX3_longestFree 33 = .ok (.getfield 21, 3) := by decide +kernel
theorem dX3_longestFree_36 : decode cX3_longestFree 36 = .ok (.iload_n 1, 1) := by decide +kernel
theorem dX3_longestFree_37 : decode cX3_longestFree 37 = .ok (.iaload, 1) := by decide +kernel
theorem dX3_longestFree_38 : decode cX3_longestFree 38 = .ok (.if_icmp .ge 5, 3) := by decide +kernel
theorem dX3_longestFree_41 : decode cX3_longestFree 41 = .ok (.iload_n 2, 1) := by decide +kernel
theorem dX3_longestFree_42 : decode cX3_longestFree 42 = .ok (.istore_n 1, 1) := by decide +kernel
theorem dX3_longestFree_43 : decode cX3_longestFree 43 = .ok (.iinc 2 1, 3) := by decide +kernel
theorem dX3_longestFree_46 : decode cX3_longestFree 46 = .ok (.goto (-42), 3) := by decide +kernel
theorem dX3_longestFree_49 : decode cX3_longestFree 49 = .ok (.iload_n 1, 1) := by decide +kernel
theorem dX3_longestFree_50 : decode cX3_longestFree 50 = .ok (.ireturn, 1) := by decide +kernel
theorem dX3_hold_0 : decode cX3_hold 0 = .ok (.aload_n 0, 1) := by decide +kernel
theorem dX3_hold_1 : decode cX3_hold 1 = .ok (.getfield 9, 3) := by decide +kernel
theorem dX3_hold_4 : decode cX3_hold 4 = .ok (.iload_n 1, 1) := by decide +kernel
theorem dX3_hold_5 : decode cX3_hold 5 = .ok (.iconst 1, 1) := by decide +kernel
theorem dX3_hold_6 : decode cX3_hold 6 = .ok (.iastore, 1) := by decide +kernel
theorem dX3_hold_7 : decode cX3_hold 7 = .ok (.aload_n 0, 1) := by decide +kernel
theorem dX3_hold_8 : decode cX3_hold 8 = .ok (.getfield 15, 3) := by decide +kernel
theorem dX3_hold_11 : decode cX3_hold 11 = .ok (.iload_n 1, 1) := by decide +kernel
theorem dX3_hold_12 : decode cX3_hold 12 = .ok (.iload_n 2, 1) := by decide +kernel
theorem dX3_hold_13 : decode cX3_hold 13 = .ok (.iastore, 1) := by decide +kernel
theorem dX3_hold_14 : decode cX3_hold 14 = .ok (.aload_n 0, 1) := by decide +kernel
theorem dX3_hold_15 : decode cX3_hold 15 = .ok (.getfield 18, 3) := by decide +kernel
theorem dX3_hold_18 : decode cX3_hold 18 = .ok (.iload_n 1, 1) := by decide +kernel
theorem dX3_hold_19 : decode cX3_hold 19 = .ok (.iload_n 3, 1) := by decide +kernel
theorem dX3_hold_20 : decode cX3_hold 20 = .ok (.iastore, 1) := by decide +kernel
theorem dX3_hold_21 : decode cX3_hold 21 = .ok (.aload_n 0, 1) := by decide +kernel
theorem dX3_hold_22 : decode cX3_hold 22 = .ok (.iload_n 1, 1) := by decide +kernel
theorem dX3_hold_23 : decode cX3_hold 23 = .ok (.iconst 1, 1) := by decide +kernel
theorem dX3_hold_24 : decode cX3_hold 24 = .ok (.iadd, 1) := by decide +kernel
theorem dX3_hold_25 : decode cX3_hold 25 = .ok (.putfield 55, 3) := by decide +kernel
theorem dX3_hold_28 : decode cX3_hold 28 = .ok (.return_, 1) := by decide +kernel
theorem dX3_letGo_0 : decode cX3_letGo 0 = .ok (.aload_n 0, 1) := by decide +kernel
theorem dX3_letGo_1 : decode cX3_letGo 1 = .ok (.getfield 9, 3) := by decide +kernel
theorem dX3_letGo_4 : decode cX3_letGo 4 = .ok (.iload_n 1, 1) := by decide +kernel
theorem dX3_letGo_5 : decode cX3_letGo 5 = .ok (.iload_n 2, 1) := by decide +kernel
theorem dX3_letGo_6 : decode cX3_letGo 6 = .ok (.iastore, 1) := by decide +kernel
theorem dX3_letGo_7 : decode cX3_letGo 7 = .ok (.aload_n 0, 1) := by decide +kernel
theorem dX3_letGo_8 : decode cX3_letGo 8 = .ok (.getfield 15, 3) := by decide +kernel
theorem dX3_letGo_11 : decode cX3_letGo 11 = .ok (.iload_n 1, 1) := by decide +kernel
theorem dX3_letGo_12 : decode cX3_letGo 12 = .ok (.iconst (-1), 1) := by decide +kernel
theorem dX3_letGo_13 : decode cX3_letGo 13 = .ok (.iastore, 1) := by decide +kernel
theorem dX3_letGo_14 : decode cX3_letGo 14 = .ok (.aload_n 0, 1) := by decide +kernel
theorem dX3_letGo_15 : decode cX3_letGo 15 = .ok (.getfield 18, 3) := by decide +kernel
theorem dX3_letGo_18 : decode cX3_letGo 18 = .ok (.iload_n 1, 1) := by decide +kernel
theorem dX3_letGo_19 : decode cX3_letGo 19 = .ok (.iconst (-1), 1) := by decide +kernel
theorem dX3_letGo_20 : decode cX3_letGo 20 = .ok (.iastore, 1) := by decide +kernel
theorem dX3_letGo_21 : decode cX3_letGo 21 = .ok (.aload_n 0, 1) := by decide +kernel
theorem dX3_letGo_22 : decode cX3_letGo 22 = .ok (.getfield 21, 3) := by decide +kernel
theorem dX3_letGo_25 : decode cX3_letGo 25 = .ok (.iload_n 1, 1) := by decide +kernel
theorem dX3_letGo_26 : decode cX3_letGo 26 = .ok (.iload_n 3, 1) := by decide +kernel
theorem dX3_letGo_27 : decode cX3_letGo 27 = .ok (.iastore, 1) := by decide +kernel
theorem dX3_letGo_28 : decode cX3_letGo 28 = .ok (.return_, 1) := by decide +kernel
theorem dX4_init_0 : decode cX4_init 0 = .ok (.aload_n 0, 1) := by decide +kernel
theorem dX4_init_1 : decode cX4_init 1 = .ok (.invokespecial 3, 3) := by decide +kernel
theorem dX4_init_4 : decode cX4_init 4 = .ok (.aload_n 0, 1) := by decide +kernel
theorem dX4_init_5 : decode cX4_init 5 = .ok (.bipush 20, 2) := by decide +kernel
theorem dX4_init_7 : decode cX4_init 7 = .ok (.anewarray 9, 3) := by decide +kernel
theorem dX4_init_10 : decode cX4_init 10 = .ok (.putfield 11, 3) := by decide +kernel
theorem dX4_init_13 : decode cX4_init 13 = .ok (.iconst 0, 1) := by decide +kernel
theorem dX4_init_14 : decode cX4_init 14 = .ok (.istore_n 1, 1) := by decide +kernel
theorem dX4_init_15 : decode cX4_init 15 = .ok (.iload_n 1, 1) := by decide +kernel
theorem dX4_init_16 : decode cX4_init 16 = .ok (.bipush 20, 2) := by decide +kernel
theorem dX4_init_18 : decode cX4_init 18 = .ok (.if_icmp .ge 22, 3) := by decide +kernel
theorem dX4_init_21 : decode cX4_init 21 = .ok (.aload_n 0, 1) := by decide +kernel
theorem dX4_init_22 : decode cX4_init 22 = .ok (.getfield 11, 3) := by decide +kernel
theorem dX4_init_25 : decode cX4_init 25 = .ok (.iload_n 1, 1) := by decide +kernel
theorem dX4_init_26 : decode cX4_init 26 = .ok (.new 9, 3) := by decide +kernel
theorem dX4_init_29 : decode cX4_init 29 = .ok (.dup, 1) := by decide +kernel
theorem dX4_init_30 : decode cX4_init 30 = .ok (.invokespecial 17, 3) := by decide +kernel
theorem dX4_init_33 : decode cX4_init 33 = .ok (.aastore, 1) := by decide +kernel
theorem dX4_init_34 : decode cX4_init 34 = .ok (.iinc 1 1, 3) := by decide +kernel
theorem dX4_init_37 : decode cX4_init 37 = .ok (.goto (-22), 3) := by decide +kernel
theorem dX4_init_40 : decode cX4_init 40 = .ok (.return_, 1) := by decide +kernel
theorem dX4_remember_0 : decode cX4_remember 0 = .ok (.aload_n 0, 1) := by decide +kernel
theorem dX4_remember_1 : decode cX4_remember 1 = .ok (.getfield 11, 3) := by decide +kernel
theorem dX4_remember_4 : decode cX4_remember 4 = .ok (.aload_n 0, 1) := by decide +kernel
theorem dX4_remember_5 : decode cX4_remember 5 = .ok (.getfield 18, 3) := by decide +kernel
theorem dX4_remember_8 : decode cX4_remember 8 = .ok (.aaload, 1) := by decide +kernel
theorem dX4_remember_9 : decode cX4_remember 9 = .ok (.aload_n 1, 1) := by decide +kernel
theorem dX4_remember_10 : decode cX4_remember 10 = .ok (.invokevirtual 22, 3) := by decide +kernel
theorem dX4_remember_13 : decode cX4_remember 13 = .ok (.aload_n 0, 1) := by decide +kernel
theorem dX4_remember_14 : decode cX4_remember 14 = .ok (.aload_n 0, 1) := by decide +kernel
theorem dX4_remember_15 : decode cX4_remember 15 = .ok (.getfield 18, 3) := by decide +kernel
theorem dX4_remember_18 : decode cX4_remember 18 = .ok (.iconst 1, 1) := by decide +kernel
theorem dX4_remember_19 : decode cX4_remember 19 = .ok (.iadd, 1) := by decide +kernel
theorem dX4_remember_20 : decode cX4_remember 20 = .ok (.bipush 20, 2) := by decide +kernel
theorem dX4_remember_22 : decode cX4_remember 22 = .ok (.irem, 1) := by decide +kernel
theorem dX4_remember_23 : decode cX4_remember 23 = .ok (.putfield 18, 3) := by decide +kernel
theorem dX4_remember_26 : decode cX4_remember 26 = .ok (.aload_n 0, 1) := by decide +kernel
theorem dX4_remember_27 : decode cX4_remember 27 = .ok (.getfield 26, 3) := by decide +kernel
theorem dX4_remember_30 : decode cX4_remember 30 = .ok (.bipush 20, 2) := by decide +kernel
theorem dX4_remember_32 : decode cX4_remember 32 = .ok (.if_icmp .ge 13, 3) := by decide +kernel
theorem dX4_remember_35 : decode cX4_remember 35 = .ok (.aload_n 0, 1) := by decide +kernel
theorem dX4_remember_36 : decode cX4_remember 36 = .ok (.dup, 1) := by decide +kernel
theorem dX4_remember_37 : decode cX4_remember 37 = .ok (.getfield 26, 3) := by decide +kernel
theorem dX4_remember_40 : decode cX4_remember 40 = .ok (.iconst 1, 1) := by decide +kernel
theorem dX4_remember_41 : decode cX4_remember 41 = .ok (.iadd, 1) := by decide +kernel
theorem dX4_remember_42 : decode cX4_remember 42 = .ok (.putfield 26, 3) := by decide +kernel
theorem dX4_remember_45 : decode cX4_remember 45 = .ok (.return_, 1) := by decide +kernel
theorem dX4_forget_0 : decode cX4_forget 0 = .ok (.aload_n 0, 1) := by decide +kernel
theorem dX4_forget_1 : decode cX4_forget 1 = .ok (.iconst 0, 1) := by decide +kernel
theorem dX4_forget_2 : decode cX4_forget 2 = .ok (.putfield 26, 3) := by decide +kernel
theorem dX4_forget_5 : decode cX4_forget 5 = .ok (.return_, 1) := by decide +kernel
theorem dX4_takeBack_0 : decode cX4_takeBack 0 = .ok (.aload_n 0, 1) := by decide +kernel
theorem dX4_takeBack_1 : decode cX4_takeBack 1 = .ok (.aload_n 0, 1) := by decide +kernel
theorem dX4_takeBack_2 : decode cX4_takeBack 2 = .ok (.getfield 18, 3) := by decide +kernel
theorem dX4_takeBack_5 : decode cX4_takeBack 5 = .ok (.iload_n 1, 1) := by decide +kernel
theorem dX4_takeBack_6 : decode cX4_takeBack 6 = .ok (.isub, 1) := by decide +kernel
theorem dX4_takeBack_7 : decode cX4_takeBack 7 = .ok (.bipush 20, 2) := by decide +kernel
theorem dX4_takeBack_9 : decode cX4_takeBack 9 = .ok (.invokestatic 29, 3) := by decide +kernel
theorem dX4_takeBack_12 : decode cX4_takeBack 12 = .ok (.putfield 18, 3) := by decide +kernel
theorem dX4_takeBack_15 : decode cX4_takeBack 15 = .ok (.aload_n 0, 1) := by decide +kernel
theorem dX4_takeBack_16 : decode cX4_takeBack 16 = .ok (.dup, 1) := by decide +kernel
theorem dX4_takeBack_17 : decode cX4_takeBack 17 = .ok (.getfield 26, 3) := by decide +kernel
theorem dX4_takeBack_20 : decode cX4_takeBack 20 = .ok (.iload_n 1, 1) := by decide +kernel
theorem dX4_takeBack_21 : decode cX4_takeBack 21 = .ok (.isub, 1) := by decide +kernel
theorem dX4_takeBack_22 : decode cX4_takeBack 22 = .ok (.putfield 26, 3) := by decide +kernel
theorem dX4_takeBack_25 : decode cX4_takeBack 25 = .ok (.aload_n 2, 1) := by decide +kernel
theorem dX4_takeBack_26 : decode cX4_takeBack 26 = .ok (.aload_n 0, 1) := by decide +kernel
theorem dX4_takeBack_27 : decode cX4_takeBack 27 = .ok (.getfield 11, 3) := by decide +kernel
theorem dX4_takeBack_30 : decode cX4_takeBack 30 = .ok (.aload_n 0, 1) := by decide +kernel
theorem dX4_takeBack_31 : decode cX4_takeBack 31 = .ok (.getfield 18, 3) := by decide +kernel
theorem dX4_takeBack_34 : decode cX4_takeBack 34 = .ok (.aaload, 1) := by decide +kernel
theorem dX4_takeBack_35 : decode cX4_takeBack 35 = .ok (.invokevirtual 22, 3) := by decide +kernel
theorem dX4_takeBack_38 : decode cX4_takeBack 38 = .ok (.return_, 1) := by decide +kernel
theorem dX5_init_0 : decode cX5_init 0 = .ok (.aload_n 0, 1) := by decide +kernel
theorem dX5_init_1 : decode cX5_init 1 = .ok (.invokespecial 1, 3) := by decide +kernel
theorem dX5_init_4 : decode cX5_init 4 = .ok (.aload_n 0, 1) := by decide +kernel
theorem dX5_init_5 : decode cX5_init 5 = .ok (.new 7, 3) := by decide +kernel
theorem dX5_init_8 : decode cX5_init 8 = .ok (.dup, 1) := by decide +kernel
theorem dX5_init_9 : decode cX5_init 9 = .ok (.invokespecial 9, 3) := by decide +kernel
theorem dX5_init_12 : decode cX5_init 12 = .ok (.putfield 10, 3) := by decide +kernel
theorem dX5_init_15 : decode cX5_init 15 = .ok (.return_, 1) := by decide +kernel
theorem dX5_take_0 : decode cX5_take 0 = .ok (.aload_n 0, 1) := by decide +kernel
theorem dX5_take_1 : decode cX5_take 1 = .ok (.getfield 10, 3) := by decide +kernel
theorem dX5_take_4 : decode cX5_take 4 = .ok (.aload_n 1, 1) := by decide +kernel
theorem dX5_take_5 : decode cX5_take 5 = .ok (.invokevirtual 16, 3) := by decide +kernel
theorem dX5_take_8 : decode cX5_take 8 = .ok (.aload_n 0, 1) := by decide +kernel
theorem dX5_take_9 : decode cX5_take 9 = .ok (.aload_n 2, 1) := by decide +kernel
theorem dX5_take_10 : decode cX5_take 10 = .ok (.getfield 20, 3) := by decide +kernel
theorem dX5_take_13 : decode cX5_take 13 = .ok (.putfield 26, 3) := by decide +kernel
theorem dX5_take_16 : decode cX5_take 16 = .ok (.aload_n 0, 1) := by decide +kernel
theorem dX5_take_17 : decode cX5_take 17 = .ok (.iconst 1, 1) := by decide +kernel
theorem dX5_take_18 : decode cX5_take 18 = .ok (.putfield 29, 3) := by decide +kernel
theorem dX5_take_21 : decode cX5_take 21 = .ok (.return_, 1) := by decide +kernel
theorem dX5_give_0 : decode cX5_give 0 = .ok (.aload_n 1, 1) := by decide +kernel
theorem dX5_give_1 : decode cX5_give 1 = .ok (.aload_n 0, 1) := by decide +kernel
theorem dX5_give_2 : decode cX5_give 2 = .ok (.getfield 10, 3) := by decide +kernel
theorem dX5_give_5 : decode cX5_give 5 = .ok (.invokevirtual 16, 3) := by decide +kernel
theorem dX5_give_8 : decode cX5_give 8 = .ok (.aload_n 2, 1) := by decide +kernel
theorem dX5_give_9 : decode cX5_give 9 = .ok (.aload_n 0, 1) := by decide +kernel
theorem dX5_give_10 : decode cX5_give 10 = .ok (.getfield 26, 3) := by decide +kernel
theorem dX5_give_13 : decode cX5_give 13 = .ok (.putfield 20, 3) := by decide +kernel
theorem dX5_give_16 : decode cX5_give 16 = .ok (.return_, 1) := by decide +kernel
theorem dX6_init_0 : decode cX6_init 0 = .ok (.aload_n 0, 1) := by decide +kernel
theorem dX6_init_1 : decode cX6_init 1 = .ok (.invokespecial 3, 3) := by decide +kernel
theorem dX6_init_4 : decode cX6_init 4 = .ok (.aload_n 0, 1) := by decide +kernel
theorem dX6_init_5 : decode cX6_init 5 = .ok (.iconst 4, 1) := by decide +kernel
theorem dX6_init_6 : decode cX6_init 6 = .ok (.anewarray 9, 3) := by decide +kernel
theorem dX6_init_9 : decode cX6_init 9 = .ok (.putfield 11, 3) := by decide +kernel
theorem dX6_init_12 : decode cX6_init 12 = .ok (.iconst 0, 1) := by decide +kernel
theorem dX6_init_13 : decode cX6_init 13 = .ok (.istore_n 1, 1) := by decide +kernel
theorem dX6_init_14 : decode cX6_init 14 = .ok (.iload_n 1, 1) := by decide +kernel
theorem dX6_init_15 : decode cX6_init 15 = .ok (.iconst 4, 1) := by decide +kernel
theorem dX6_init_16 : decode cX6_init 16 = .ok (.if_icmp .ge 22, 3) := by decide +kernel
theorem dX6_init_19 : decode cX6_init 19 = .ok (.aload_n 0, 1) := by decide +kernel
theorem dX6_init_20 : decode cX6_init 20 = .ok (.getfield 11, 3) := by decide +kernel
theorem dX6_init_23 : decode cX6_init 23 = .ok (.iload_n 1, 1) := by decide +kernel
theorem dX6_init_24 : decode cX6_init 24 = .ok (.new 9, 3) := by decide +kernel
theorem dX6_init_27 : decode cX6_init 27 = .ok (.dup, 1) := by decide +kernel
theorem dX6_init_28 : decode cX6_init 28 = .ok (.invokespecial 17, 3) := by decide +kernel
theorem dX6_init_31 : decode cX6_init 31 = .ok (.aastore, 1) := by decide +kernel
theorem dX6_init_32 : decode cX6_init 32 = .ok (.iinc 1 1, 3) := by decide +kernel
theorem dX6_init_35 : decode cX6_init 35 = .ok (.goto (-21), 3) := by decide +kernel
theorem dX6_init_38 : decode cX6_init 38 = .ok (.aload_n 0, 1) := by decide +kernel
theorem dX6_init_39 : decode cX6_init 39 = .ok (.iconst 2, 1) := by decide +kernel
theorem dX6_init_40 : decode cX6_init 40 = .ok (.invokevirtual 18, 3) := by decide +kernel
theorem dX6_init_43 : decode cX6_init 43 = .ok (.return_, 1) := by decide +kernel
theorem dX6_begin_0 : decode cX6_begin 0 = .ok (.aload_n 0, 1) := by decide +kernel
theorem dX6_begin_1 : decode cX6_begin 1 = .ok (.iload_n 1, 1) := by decide +kernel
theorem dX6_begin_2 : decode cX6_begin 2 = .ok (.putfield 22, 3) := by decide +kernel
theorem dX6_begin_5 : decode cX6_begin 5 = .ok (.aload_n 0, 1) := by decide +kernel
theorem dX6_begin_6 : decode cX6_begin 6 = .ok (.iconst 0, 1) := by decide +kernel
theorem dX6_begin_7 : decode cX6_begin 7 = .ok (.putfield 26, 3) := by decide +kernel
theorem dX6_begin_10 : decode cX6_begin 10 = .ok (.aload_n 0, 1) := by decide +kernel
theorem dX6_begin_11 : decode cX6_begin 11 = .ok (.iconst 0, 1) := by decide +kernel
theorem dX6_begin_12 : decode cX6_begin 12 = .ok (.putfield 29, 3) := by decide +kernel
theorem dX6_begin_15 : decode cX6_begin 15 = .ok (.iconst 0, 1) := by decide +kernel
theorem dX6_begin_16 : decode cX6_begin 16 = .ok (.istore_n 2, 1) := by decide +kernel
theorem dX6_begin_17 : decode cX6_begin 17 = .ok (.iload_n 2, 1) := by decide +kernel
theorem dX6_begin_18 : decode cX6_begin 18 = .ok (.iconst 4, 1) := by decide +kernel
theorem dX6_begin_19 : decode cX6_begin 19 = .ok (.if_icmp .ge 18, 3) := by decide +kernel
theorem dX6_begin_22 : decode cX6_begin 22 = .ok (.aload_n 0, 1) := by decide +kernel
theorem dX6_begin_23 : decode cX6_begin 23 = .ok (.getfield 11, 3) := by decide +kernel
theorem dX6_begin_26 : decode cX6_begin 26 = .ok (.iload_n 2, 1) := by decide +kernel
theorem dX6_begin_27 : decode cX6_begin 27 = .ok (.aaload, 1) := by decide +kernel
theorem dX6_begin_28 : decode cX6_begin 28 = .ok (.invokevirtual 32, 3) := by decide +kernel
theorem dX6_begin_31 : decode cX6_begin 31 = .ok (.iinc 2 1, 3) := by decide +kernel
theorem dX6_begin_34 : decode cX6_begin 34 = .ok (.goto (-17), 3) := by decide +kernel
theorem dX6_begin_37 : decode cX6_begin 37 = .ok (.return_, 1) := by decide +kernel
theorem dX6_copyFrom_0 : decode cX6_copyFrom 0 = .ok (.aload_n 0, 1) := by decide +kernel
theorem dX6_copyFrom_1 : decode cX6_copyFrom 1 = .ok (.aload_n 1, 1) := by decide +kernel
theorem dX6_copyFrom_2 : decode cX6_copyFrom 2 = .ok (.getfield 22, 3) := by decide +kernel
theorem dX6_copyFrom_5 : decode cX6_copyFrom 5 = .ok (.putfield 22, 3) := by decide +kernel
theorem dX6_copyFrom_8 : decode cX6_copyFrom 8 = .ok (.aload_n 0, 1) := by decide +kernel
theorem dX6_copyFrom_9 : decode cX6_copyFrom 9 = .ok (.aload_n 1, 1) := by decide +kernel
theorem dX6_copyFrom_10 : decode cX6_copyFrom 10 = .ok (.getfield 26, 3) := by decide +kernel
theorem dX6_copyFrom_13 : decode cX6_copyFrom 13 = .ok (.putfield 26, 3) := by decide +kernel
theorem dX6_copyFrom_16 : decode cX6_copyFrom 16 = .ok (.aload_n 0, 1) := by decide +kernel
theorem dX6_copyFrom_17 : decode cX6_copyFrom 17 = .ok (.aload_n 1, 1) := by decide +kernel
theorem dX6_copyFrom_18 : decode cX6_copyFrom 18 = .ok (.getfield 29, 3) := by decide +kernel
theorem dX6_copyFrom_21 : decode cX6_copyFrom 21 = .ok (.putfield 29, 3) := by decide +kernel
theorem dX6_copyFrom_24 : decode cX6_copyFrom 24 = .ok (.iconst 0, 1) := by decide +kernel
theorem dX6_copyFrom_25 : decode cX6_copyFrom 25 = .ok (.istore_n 2, 1) := by decide +kernel
theorem dX6_copyFrom_26 : decode cX6_copyFrom 26 = .ok (.iload_n 2, 1) := by decide +kernel
theorem dX6_copyFrom_27 : decode cX6_copyFrom 27 = .ok (.iconst 4, 1) := by decide +kernel
theorem dX6_copyFrom_28 : decode cX6_copyFrom 28 = .ok (.if_icmp .ge 24, 3) := by decide +kernel
theorem dX6_copyFrom_31 : decode cX6_copyFrom 31 = .ok (.aload_n 0, 1) := by decide +kernel
theorem dX6_copyFrom_32 : decode cX6_copyFrom 32 = .ok (.getfield 11, 3) := by decide +kernel
theorem dX6_copyFrom_35 : decode cX6_copyFrom 35 = .ok (.iload_n 2, 1) := by decide +kernel
theorem dX6_copyFrom_36 : decode cX6_copyFrom 36 = .ok (.aaload, 1) := by decide +kernel
theorem dX6_copyFrom_37 : decode cX6_copyFrom 37 = .ok (.aload_n 1, 1) := by decide +kernel
theorem dX6_copyFrom_38 : decode cX6_copyFrom 38 = .ok (.getfield 11, 3) := by decide +kernel
theorem dX6_copyFrom_41 : decode cX6_copyFrom 41 = .ok (.iload_n 2, 1) := by decide +kernel
theorem dX6_copyFrom_42 : decode cX6_copyFrom 42 = .ok (.aaload, 1) := by decide +kernel
theorem dX6_copyFrom_43 : decode cX6_copyFrom 43 = .ok (.invokevirtual 34, 3) := by decide +kernel
theorem dX6_copyFrom_46 : decode cX6_copyFrom 46 = .ok (.iinc 2 1, 3) := by decide +kernel
theorem dX6_copyFrom_49 : decode cX6_copyFrom 49 = .ok (.goto (-23), 3) := by decide +kernel
theorem dX6_copyFrom_52 : decode cX6_copyFrom 52 = .ok (.return_, 1) := by decide +kernel
theorem dX6_groupAt_0 : decode cX6_groupAt 0 = .ok (.iload_n 1, 1) := by decide +kernel
theorem dX6_groupAt_1 : decode cX6_groupAt 1 = .ok (.ifCond .lt 20, 3) := by decide +kernel
theorem dX6_groupAt_4 : decode cX6_groupAt 4 = .ok (.iload_n 1, 1) := by decide +kernel
theorem dX6_groupAt_5 : decode cX6_groupAt 5 = .ok (.aload_n 0, 1) := by decide +kernel
theorem dX6_groupAt_6 : decode cX6_groupAt 6 = .ok (.getfield 22, 3) := by decide +kernel
theorem dX6_groupAt_9 : decode cX6_groupAt 9 = .ok (.if_icmp .ge 12, 3) := by decide +kernel
theorem dX6_groupAt_12 : decode cX6_groupAt 12 = .ok (.aload_n 0, 1) := by decide +kernel
theorem dX6_groupAt_13 : decode cX6_groupAt 13 = .ok (.getfield 11, 3) := by decide +kernel
theorem dX6_groupAt_16 : decode cX6_groupAt 16 = .ok (.iload_n 1, 1) := by decide +kernel
theorem dX6_groupAt_17 : decode cX6_groupAt 17 = .ok (.aaload, 1) := by decide +kernel
theorem dX6_groupAt_18 : decode cX6_groupAt 18 = .ok (.goto 4, 3) := by decide +kernel
theorem dX6_groupAt_21 : decode cX6_groupAt 21 = .ok (.aconst_null, 1) := by decide +kernel
theorem dX6_groupAt_22 : decode cX6_groupAt 22 = .ok (.areturn, 1) := by decide +kernel
theorem dX6_groupWithLine_0 : decode cX6_groupWithLine 0 = .ok (.aload_n 0, 1) := by decide +kernel
theorem dX6_groupWithLine_1 : decode cX6_groupWithLine 1 = .ok (.iload_n 1, 1) := by decide +kernel
theorem dX6_groupWithLine_2 : decode cX6_groupWithLine 2 = .ok (.invokevirtual 38, 3) := by decide +kernel
theorem dX6_groupWithLine_5 : decode cX6_groupWithLine 5 = .ok (.astore_n 3, 1) := by decide +kernel
theorem dX6_groupWithLine_6 : decode cX6_groupWithLine 6 = .ok (.aload_n 3, 1) := by decide +kernel
theorem dX6_groupWithLine_7 : decode cX6_groupWithLine 7 = .ok (.ifnull 15, 3) := by decide +kernel
theorem dX6_groupWithLine_10 : decode cX6_groupWithLine 10 = .ok (.aload_n 3, 1) := by decide +kernel
theorem dX6_groupWithLine_11 : decode cX6_groupWithLine 11 = .ok (.iload_n 2, 1) := by decide +kernel
theorem dX6_groupWithLine_12 : decode cX6_groupWithLine 12 = .ok (.invokevirtual 42, 3) := by decide +kernel
theorem dX6_groupWithLine_15 : decode cX6_groupWithLine 15 = .ok (.ifCond .eq 7, 3) := by decide +kernel
theorem dX6_groupWithLine_18 : decode cX6_groupWithLine 18 = .ok (.aload_n 3, 1) := by decide +kernel
theorem dX6_groupWithLine_19 : decode cX6_groupWithLine 19 = .ok (.goto 4, 3) := by decide +kernel
theorem dX6_groupWithLine_22 : decode cX6_groupWithLine 22 = .ok (.aconst_null, 1) := by decide +kernel
theorem dX6_groupWithLine_23 : decode cX6_groupWithLine 23 = .ok (.areturn, 1) := by decide +kernel
theorem dX6_heldLines_0 : decode cX6_heldLines 0 = .ok (.iconst 0, 1) := by decide +kernel
theorem dX6_heldLines_1 : decode cX6_heldLines 1 = .ok (.istore_n 1, 1) := by decide +kernel
theorem dX6_heldLines_2 : decode cX6_heldLines 2 = .ok (.iconst 0, 1) := by decide +kernel
theorem dX6_heldLines_3 : decode cX6_heldLines 3 = .ok (.istore_n 2, 1) := by decide +kernel
theorem dX6_heldLines_4 : decode cX6_heldLines 4 = .ok (.iload_n 2, 1) := by decide +kernel
theorem dX6_heldLines_5 : decode cX6_heldLines 5 = .ok (.aload_n 0, 1) := by decide +kernel
theorem dX6_heldLines_6 : decode cX6_heldLines 6 = .ok (.getfield 22, 3) := by decide +kernel
theorem dX6_heldLines_9 : decode cX6_heldLines 9 = .ok (.if_icmp .ge 22, 3) := by decide +kernel
theorem dX6_heldLines_12 : decode cX6_heldLines 12 = .ok (.iload_n 1, 1) := by decide +kernel
theorem dX6_heldLines_13 : decode cX6_heldLines 13 = .ok (.aload_n 0, 1) := by decide +kernel
theorem dX6_heldLines_14 : decode cX6_heldLines 14 = .ok (.getfield 11, 3) := by decide +kernel
theorem dX6_heldLines_17 : decode cX6_heldLines 17 = .ok (.iload_n 2, 1) := by decide +kernel
theorem dX6_heldLines_18 : decode cX6_heldLines 18 = .ok (.aaload, 1) := by decide +kernel
theorem dX6_heldLines_19 : decode cX6_heldLines 19 = .ok (.iconst 1, 1) := by decide +kernel
theorem dX6_heldLines_20 : decode cX6_heldLines 20 = .ok (.invokevirtual 46, 3) := by decide +kernel
theorem dX6_heldLines_23 : decode cX6_heldLines 23 = .ok (.iadd, 1) := by decide +kernel
theorem dX6_heldLines_24 : decode cX6_heldLines 24 = .ok (.istore_n 1, 1) := by decide +kernel
theorem dX6_heldLines_25 : decode cX6_heldLines 25 = .ok (.iinc 2 1, 3) := by decide +kernel
theorem dX6_heldLines_28 : decode cX6_heldLines 28 = .ok (.goto (-24), 3) := by decide +kernel
theorem dX6_heldLines_31 : decode cX6_heldLines 31 = .ok (.iload_n 1, 1) := by decide +kernel
theorem dX6_heldLines_32 : decode cX6_heldLines 32 = .ok (.ireturn, 1) := by decide +kernel
theorem dX6_lostCalls_0 : decode cX6_lostCalls 0 = .ok (.iconst 0, 1) := by decide +kernel
theorem dX6_lostCalls_1 : decode cX6_lostCalls 1 = .ok (.istore_n 1, 1) := by decide +kernel
theorem dX6_lostCalls_2 : decode cX6_lostCalls 2 = .ok (.iconst 0, 1) := by decide +kernel
theorem dX6_lostCalls_3 : decode cX6_lostCalls 3 = .ok (.istore_n 2, 1) := by decide +kernel
theorem dX6_lostCalls_4 : decode cX6_lostCalls 4 = .ok (.iload_n 2, 1) := by decide +kernel
theorem dX6_lostCalls_5 : decode cX6_lostCalls 5 = .ok (.aload_n 0, 1) := by decide +kernel
theorem dX6_lostCalls_6 : decode cX6_lostCalls 6 = .ok (.getfield 22, 3) := by decide +kernel
theorem dX6_lostCalls_9 : decode cX6_lostCalls 9 = .ok (.if_icmp .ge 21, 3) := by decide +kernel
theorem dX6_lostCalls_12 : decode cX6_lostCalls 12 = .ok (.iload_n 1, 1) := by decide +kernel
theorem dX6_lostCalls_13 : decode cX6_lostCalls 13 = .ok (.aload_n 0, 1) := by decide +kernel
theorem dX6_lostCalls_14 : decode cX6_lostCalls 14 = .ok (.getfield 11, 3) := by decide +kernel
theorem dX6_lostCalls_17 : decode cX6_lostCalls 17 = .ok (.iload_n 2, 1) := by decide +kernel
theorem dX6_lostCalls_18 : decode cX6_lostCalls 18 = .ok (.aaload, 1) := by decide +kernel
theorem dX6_lostCalls_19 : decode cX6_lostCalls 19 = .ok (.getfield 50, 3) := by decide +kernel
theorem dX6_lostCalls_22 : decode cX6_lostCalls 22 = .ok (.iadd, 1) := by decide +kernel
theorem dX6_lostCalls_23 : decode cX6_lostCalls 23 = .ok (.istore_n 1, 1) := by decide +kernel
theorem dX6_lostCalls_24 : decode cX6_lostCalls 24 = .ok (.iinc 2 1, 3) := by decide +kernel
theorem dX6_lostCalls_27 : decode cX6_lostCalls 27 = .ok (.goto (-23), 3) := by decide +kernel
theorem dX6_lostCalls_30 : decode cX6_lostCalls 30 = .ok (.iload_n 1, 1) := by decide +kernel
theorem dX6_lostCalls_31 : decode cX6_lostCalls 31 = .ok (.ireturn, 1) := by decide +kernel
theorem dX6_nextPlace_0 : decode cX6_nextPlace 0 = .ok (.aload_n 0, 1) := by decide +kernel
theorem dX6_nextPlace_1 : decode cX6_nextPlace 1 = .ok (.iload_n 1, 1) := by decide +kernel
theorem dX6_nextPlace_2 : decode cX6_nextPlace 2 = .ok (.invokevirtual 38, 3) := by decide +kernel
theorem dX6_nextPlace_5 : decode cX6_nextPlace 5 = .ok (.astore_n 2, 1) := by decide +kernel
theorem dX6_nextPlace_6 : decode cX6_nextPlace 6 = .ok (.aload_n 2, 1) := by decide +kernel
theorem dX6_nextPlace_7 : decode cX6_nextPlace 7 = .ok (.ifnonnull 5, 3) := by decide +kernel
theorem dX6_nextPlace_10 : decode cX6_nextPlace 10 = .ok (.iconst (-1), 1) := by decide +kernel
theorem dX6_nextPlace_11 : decode cX6_nextPlace 11 = .ok (.ireturn, 1) := by decide +kernel
theorem dX6_nextPlace_12 : decode cX6_nextPlace 12 = .ok (.aload_n 2, 1) := by decide +kernel
theorem dX6_nextPlace_13 : decode cX6_nextPlace 13 = .ok (.invokevirtual 53, 3) := by decide +kernel
theorem dX6_nextPlace_16 : decode cX6_nextPlace 16 = .ok (.istore_n 3, 1) := by decide +kernel
theorem dX6_nextPlace_17 : decode cX6_nextPlace 17 = .ok (.iload_n 3, 1) := by decide +kernel
theorem dX6_nextPlace_18 : decode cX6_nextPlace 18 = .ok (.iconst (-1), 1) := by decide +kernel
theorem dX6_nextPlace_19 : decode cX6_nextPlace 19 = .ok (.if_icmp .eq 10, 3) := by decide +kernel
theorem dX6_nextPlace_22 : decode cX6_nextPlace 22 = .ok (.bipush 10, 2) := by decide +kernel
theorem dX6_nextPlace_24 : decode cX6_nextPlace 24 = .ok (.iload_n 1, 1) := by decide +kernel
theorem dX6_nextPlace_25 : decode cX6_nextPlace 25 = .ok (.imul, 1) := by decide +kernel
theorem dX6_nextPlace_26 : decode cX6_nextPlace 26 = .ok (.iload_n 3, 1) := by decide +kernel
theorem dX6_nextPlace_27 : decode cX6_nextPlace 27 = .ok (.iadd, 1) := by decide +kernel
theorem dX6_nextPlace_28 : decode cX6_nextPlace 28 = .ok (.ireturn, 1) := by decide +kernel
theorem dX6_nextPlace_29 : decode cX6_nextPlace 29 = .ok (.aload_n 0, 1) := by decide +kernel
theorem dX6_nextPlace_30 : decode cX6_nextPlace 30 = .ok (.aload_n 2, 1) := by decide +kernel
theorem dX6_nextPlace_31 : decode cX6_nextPlace 31 = .ok (.getfield 57, 3) := by decide +kernel
theorem dX6_nextPlace_34 : decode cX6_nextPlace 34 = .ok (.invokevirtual 38, 3) := by decide +kernel
theorem dX6_nextPlace_37 : decode cX6_nextPlace 37 = .ok (.astore 4, 2) := by decide +kernel
theorem dX6_nextPlace_39 : decode cX6_nextPlace 39 = .ok (.aload 4, 2) := by decide +kernel
theorem dX6_nextPlace_41 : decode cX6_nextPlace 41 = .ok (.ifnull 17, 3) := by decide +kernel
theorem dX6_nextPlace_44 : decode cX6_nextPlace 44 = .ok (.aload 4, 2) := by decide +kernel
theorem dX6_nextPlace_46 : decode cX6_nextPlace 46 = .ok (.iconst 0, 1) := by decide +kernel
theorem dX6_nextPlace_47 : decode cX6_nextPlace 47 = .ok (.invokevirtual 46, 3) := by decide +kernel
theorem dX6_nextPlace_50 : decode cX6_nextPlace 50 = .ok (.aload 4, 2) := by decide +kernel
theorem dX6_nextPlace_52 : decode cX6_nextPlace 52 = .ok (.getfield 60, 3) := by decide +kernel
theorem dX6_nextPlace_55 : decode cX6_nextPlace 55 = .ok (.if_icmp .gt 5, 3) := by decide +kernel
theorem dX6_nextPlace_58 : decode cX6_nextPlace 58 = .ok (.iconst (-1), 1) := by decide +kernel
theorem dX6_nextPlace_59 : decode cX6_nextPlace 59 = .ok (.ireturn, 1) := by decide +kernel
theorem dX6_nextPlace_60 : decode cX6_nextPlace 60 = .ok (.bipush 10, 2) := by decide +kernel
theorem dX6_nextPlace_62 : decode cX6_nextPlace 62 = .ok (.aload_n 2, 1) := by decide +kernel
theorem dX6_nextPlace_63 : decode cX6_nextPlace 63 = .ok (.getfield 57, 3) := by decide +kernel
theorem dX6_nextPlace_66 : decode cX6_nextPlace 66 = .ok (.imul, 1) := by decide +kernel
theorem dX6_nextPlace_67 : decode cX6_nextPlace 67 = .ok (.aload 4, 2) := by decide +kernel
theorem dX6_nextPlace_69 : decode cX6_nextPlace 69 = .ok (.invokevirtual 53, 3) := by decide +kernel
theorem dX6_nextPlace_72 : decode cX6_nextPlace 72 = .ok (.iadd, 1) := by decide +kernel
theorem dX6_nextPlace_73 : decode cX6_nextPlace 73 = .ok (.ireturn, 1) := by decide +kernel
theorem dX6_placeCall_0 : decode cX6_placeCall 0 = .ok (.aload_n 0, 1) := by decide +kernel
theorem dX6_placeCall_1 : decode cX6_placeCall 1 = .ok (.iload_n 1, 1) := by decide +kernel
theorem dX6_placeCall_2 : decode cX6_placeCall 2 = .ok (.invokevirtual 38, 3) := by decide +kernel
theorem dX6_placeCall_5 : decode cX6_placeCall 5 = .ok (.astore_n 2, 1) := by decide +kernel
theorem dX6_placeCall_6 : decode cX6_placeCall 6 = .ok (.aload_n 2, 1) := by decide +kernel
theorem dX6_placeCall_7 : decode cX6_placeCall 7 = .ok (.ifnonnull 5, 3) := by decide +kernel
theorem dX6_placeCall_10 : decode cX6_placeCall 10 = .ok (.iconst (-1), 1) := by decide +kernel
theorem dX6_placeCall_11 : decode cX6_placeCall 11 = .ok (.ireturn, 1) := by decide +kernel
theorem dX6_placeCall_12 : decode cX6_placeCall 12 = .ok (.aload_n 0, 1) := by decide +kernel
theorem dX6_placeCall_13 : decode cX6_placeCall 13 = .ok (.iload_n 1, 1) := by decide +kernel
theorem dX6_placeCall_14 : decode cX6_placeCall 14 = .ok (.invokevirtual 63, 3) := by decide +kernel
theorem dX6_placeCall_17 : decode cX6_placeCall 17 = .ok (.istore_n 3, 1) := by decide +kernel
theorem dX6_placeCall_18 : decode cX6_placeCall 18 = .ok (.aload_n 0, 1) := by decide +kernel
theorem dX6_placeCall_19 : decode cX6_placeCall 19 = .ok (.getfield 29, 3) := by decide +kernel
theorem dX6_placeCall_22 : decode cX6_placeCall 22 = .ok (.istore 4, 2) := by decide +kernel
theorem dX6_placeCall_24 : decode cX6_placeCall 24 = .ok (.aload_n 0, 1) := by decide +kernel
theorem dX6_placeCall_25 : decode cX6_placeCall 25 = .ok (.dup, 1) := by decide +kernel
theorem dX6_placeCall_26 : decode cX6_placeCall 26 = .ok (.getfield 29, 3) := by decide +kernel
theorem dX6_placeCall_29 : decode cX6_placeCall 29 = .ok (.iconst 1, 1) := by decide +kernel
theorem dX6_placeCall_30 : decode cX6_placeCall 30 = .ok (.iadd, 1) := by decide +kernel
theorem dX6_placeCall_31 : decode cX6_placeCall 31 = .ok (.putfield 29, 3) := by decide +kernel
theorem dX6_placeCall_34 : decode cX6_placeCall 34 = .ok (.aload_n 0, 1) := by decide +kernel
theorem dX6_placeCall_35 : decode cX6_placeCall 35 = .ok (.dup, 1) := by decide +kernel
theorem dX6_placeCall_36 : decode cX6_placeCall 36 = .ok (.getfield 26, 3) := by decide +kernel
theorem dX6_placeCall_39 : decode cX6_placeCall 39 = .ok (.iconst 1, 1) := by decide +kernel
theorem dX6_placeCall_40 : decode cX6_placeCall 40 = .ok (.iadd, 1) := by decide +kernel
theorem dX6_placeCall_41 : decode cX6_placeCall 41 = .ok (.putfield 26, 3) := by decide +kernel
theorem dX6_placeCall_44 : decode cX6_placeCall 44 = .ok (.aload_n 2, 1) := by decide +kernel
theorem dX6_placeCall_45 : decode cX6_placeCall 45 = .ok (.dup, 1) := by decide +kernel
theorem dX6_placeCall_46 : decode cX6_placeCall 46 = .ok (.getfield 66, 3) := by decide +kernel
theorem dX6_placeCall_49 : decode cX6_placeCall 49 = .ok (.iconst 1, 1) := by decide +kernel
theorem dX6_placeCall_50 : decode cX6_placeCall 50 = .ok (.iadd, 1) := by decide +kernel
theorem dX6_placeCall_51 : decode cX6_placeCall 51 = .ok (.putfield 66, 3) := by decide +kernel
theorem dX6_placeCall_54 : decode cX6_placeCall 54 = .ok (.iload_n 3, 1) := by decide +kernel
theorem dX6_placeCall_55 : decode cX6_placeCall 55 = .ok (.bipush 10, 2) := by decide +kernel
theorem dX6_placeCall_57 : decode cX6_placeCall 57 = .ok (.idiv, 1) := by decide +kernel
theorem dX6_placeCall_58 : decode cX6_placeCall 58 = .ok (.istore 5, 2) := by decide +kernel
theorem dX6_placeCall_60 : decode cX6_placeCall 60 = .ok (.iload_n 3, 1) := by decide +kernel
theorem dX6_placeCall_61 : decode cX6_placeCall 61 = .ok (.bipush 10, 2) := by decide +kernel
theorem dX6_placeCall_63 : decode cX6_placeCall 63 = .ok (.irem, 1) := by decide +kernel
theorem dX6_placeCall_64 : decode cX6_placeCall 64 = .ok (.istore 6, 2) := by decide +kernel
theorem dX6_placeCall_66 : decode cX6_placeCall 66 = .ok (.iload_n 3, 1) := by decide +kernel
theorem dX6_placeCall_67 : decode cX6_placeCall 67 = .ok (.iconst (-1), 1) := by decide +kernel
theorem dX6_placeCall_68 : decode cX6_placeCall 68 = .ok (.if_icmp .ne 7, 3) := by decide +kernel
theorem dX6_placeCall_71 : decode cX6_placeCall 71 = .ok (.aconst_null, 1) := by decide +kernel
theorem dX6_placeCall_72 : decode cX6_placeCall 72 = .ok (.goto 11, 3) := by decide +kernel
theorem dX6_placeCall_75 : decode cX6_placeCall 75 = .ok (.aload_n 0, 1) := by decide +kernel
theorem dX6_placeCall_76 : decode cX6_placeCall 76 = .ok (.iload 5, 2) := by decide +kernel
theorem dX6_placeCall_78 : decode cX6_placeCall 78 = .ok (.iload 6, 2) := by decide +kernel
theorem dX6_placeCall_80 : decode cX6_placeCall 80 = .ok (.invokevirtual 69, 3) := by decide +kernel
theorem dX6_placeCall_83 : decode cX6_placeCall 83 = .ok (.astore 7, 2) := by decide +kernel
theorem dX6_placeCall_85 : decode cX6_placeCall 85 = .ok (.aload 7, 2) := by decide +kernel
theorem dX6_placeCall_87 : decode cX6_placeCall 87 = .ok (.ifnonnull 15, 3) := by decide +kernel
theorem dX6_placeCall_90 : decode cX6_placeCall 90 = .ok (.aload_n 2, 1) := by decide +kernel
theorem dX6_placeCall_91 : decode cX6_placeCall 91 = .ok (.dup, 1) := by decide +kernel
theorem dX6_placeCall_92 : decode cX6_placeCall 92 = .ok (.getfield 50, 3) := by decide +kernel
theorem dX6_placeCall_95 : decode cX6_placeCall 95 = .ok (.iconst 1, 1) := by decide +kernel
theorem dX6_placeCall_96 : decode cX6_placeCall 96 = .ok (.iadd, 1) := by decide +kernel
theorem dX6_placeCall_97 : decode cX6_placeCall 97 = .ok (.putfield 50, 3) := by decide +kernel
theorem dX6_placeCall_100 : decode cX6_placeCall 100 = .ok (.iconst (-1), 1) := by decide +kernel
theorem dX6_placeCall_101 : decode cX6_placeCall 101 = .ok (.ireturn, 1) := by decide +kernel
theorem dX6_placeCall_102 : decode cX6_placeCall 102 = .ok (.aload 7, 2) := by decide +kernel
theorem dX6_placeCall_104 : decode cX6_placeCall 104 = .ok (.iload 6, 2) := by decide +kernel
theorem dX6_placeCall_106 : decode cX6_placeCall 106 = .ok (.iload 4, 2) := by decide +kernel
theorem dX6_placeCall_108 : decode cX6_placeCall 108 = .ok (.iload_n 1, 1) := by decide +kernel
theorem dX6_placeCall_109 : decode cX6_placeCall 109 = .ok (.invokevirtual 73, 3) := by decide +kernel
theorem dX6_placeCall_112 : decode cX6_placeCall 112 = .ok (.iload 5, 2) := by decide +kernel
theorem dX6_placeCall_114 : decode cX6_placeCall 114 = .ok (.iload_n 1, 1) := by decide +kernel
theorem dX6_placeCall_115 : decode cX6_placeCall 115 = .ok (.if_icmp .ne 16, 3) := by decide +kernel
theorem dX6_placeCall_118 : decode cX6_placeCall 118 = .ok (.aload_n 2, 1) := by decide +kernel
theorem dX6_placeCall_119 : decode cX6_placeCall 119 = .ok (.dup, 1) := by decide +kernel
theorem dX6_placeCall_120 : decode cX6_placeCall 120 = .ok (.getfield 77, 3) := by decide +kernel
theorem dX6_placeCall_123 : decode cX6_placeCall 123 = .ok (.iconst 1, 1) := by decide +kernel
theorem dX6_placeCall_124 : decode cX6_placeCall 124 = .ok (.iadd, 1) := by decide +kernel
theorem dX6_placeCall_125 : decode cX6_placeCall 125 = .ok (.putfield 77, 3) := by decide +kernel
theorem dX6_placeCall_128 : decode cX6_placeCall 128 = .ok (.goto 13, 3) := by decide +kernel
theorem dX6_placeCall_131 : decode cX6_placeCall 131 = .ok (.aload_n 2, 1) := by decide +kernel
theorem dX6_placeCall_132 : decode cX6_placeCall 132 = .ok (.dup, 1) := by decide +kernel
theorem dX6_placeCall_133 : decode cX6_placeCall 133 = .ok (.getfield 80, 3) := by decide +kernel
theorem dX6_placeCall_136 : decode cX6_placeCall 136 = .ok (.iconst 1, 1) := by decide +kernel
theorem dX6_placeCall_137 : decode cX6_placeCall 137 = .ok (.iadd, 1) := by decide +kernel
theorem dX6_placeCall_138 : decode cX6_placeCall 138 = .ok (.putfield 80, 3) := by decide +kernel
theorem dX6_placeCall_141 : decode cX6_placeCall 141 = .ok (.iload_n 3, 1) := by decide +kernel
theorem dX6_placeCall_142 : decode cX6_placeCall 142 = .ok (.ireturn, 1) := by decide +kernel
theorem dX6_endCall_0 : decode cX6_endCall 0 = .ok (.aload_n 1, 1) := by decide +kernel
theorem dX6_endCall_1 : decode cX6_endCall 1 = .ok (.getfield 83, 3) := by decide +kernel
theorem dX6_endCall_4 : decode cX6_endCall 4 = .ok (.iload_n 2, 1) := by decide +kernel
theorem dX6_endCall_5 : decode cX6_endCall 5 = .ok (.iaload, 1) := by decide +kernel
theorem dX6_endCall_6 : decode cX6_endCall 6 = .ok (.istore_n 3, 1) := by decide +kernel
theorem dX6_endCall_7 : decode cX6_endCall 7 = .ok (.aload_n 0, 1) := by decide +kernel
theorem dX6_endCall_8 : decode cX6_endCall 8 = .ok (.dup, 1) := by decide +kernel
theorem dX6_endCall_9 : decode cX6_endCall 9 = .ok (.getfield 26, 3) := by decide +kernel
theorem dX6_endCall_12 : decode cX6_endCall 12 = .ok (.iconst 1, 1) := by decide +kernel
theorem dX6_endCall_13 : decode cX6_endCall 13 = .ok (.iadd, 1) := by decide +kernel
theorem dX6_endCall_14 : decode cX6_endCall 14 = .ok (.putfield 26, 3) := by decide +kernel
theorem dX6_endCall_17 : decode cX6_endCall 17 = .ok (.aload_n 1, 1) := by decide +kernel
theorem dX6_endCall_18 : decode cX6_endCall 18 = .ok (.iload_n 2, 1) := by decide +kernel
theorem dX6_endCall_19 : decode cX6_endCall 19 = .ok (.iconst 0, 1) := by decide +kernel
theorem dX6_endCall_20 : decode cX6_endCall 20 = .ok (.aload_n 0, 1) := by decide +kernel
theorem dX6_endCall_21 : decode cX6_endCall 21 = .ok (.getfield 26, 3) := by decide +kernel
theorem dX6_endCall_24 : decode cX6_endCall 24 = .ok (.invokevirtual 87, 3) := by decide +kernel
theorem dX6_endCall_27 : decode cX6_endCall 27 = .ok (.iload_n 3, 1) := by decide +kernel
theorem dX6_endCall_28 : decode cX6_endCall 28 = .ok (.ireturn, 1) := by decide +kernel
theorem dX6_breakLine_0 : decode cX6_breakLine 0 = .ok (.aload_n 1, 1) := by decide +kernel
theorem dX6_breakLine_1 : decode cX6_breakLine 1 = .ok (.getfield 83, 3) := by decide +kernel
theorem dX6_breakLine_4 : decode cX6_breakLine 4 = .ok (.iload_n 2, 1) := by decide +kernel
theorem dX6_breakLine_5 : decode cX6_breakLine 5 = .ok (.iaload, 1) := by decide +kernel
theorem dX6_breakLine_6 : decode cX6_breakLine 6 = .ok (.istore_n 3, 1) := by decide +kernel
theorem dX6_breakLine_7 : decode cX6_breakLine 7 = .ok (.aload_n 0, 1) := by decide +kernel
theorem dX6_breakLine_8 : decode cX6_breakLine 8 = .ok (.aload_n 1, 1) := by decide +kernel
theorem dX6_breakLine_9 : decode cX6_breakLine 9 = .ok (.getfield 90, 3) := by decide +kernel
theorem dX6_breakLine_12 : decode cX6_breakLine 12 = .ok (.iload_n 2, 1) := by decide +kernel
theorem dX6_breakLine_13 : decode cX6_breakLine 13 = .ok (.iaload, 1) := by decide +kernel
theorem dX6_breakLine_14 : decode cX6_breakLine 14 = .ok (.invokevirtual 38, 3) := by decide +kernel
theorem dX6_breakLine_17 : decode cX6_breakLine 17 = .ok (.astore 4, 2) := by decide +kernel
theorem dX6_breakLine_19 : decode cX6_breakLine 19 = .ok (.aload 4, 2) := by decide +kernel
theorem dX6_breakLine_21 : decode cX6_breakLine 21 = .ok (.ifnull 14, 3) := by decide +kernel
theorem dX6_breakLine_24 : decode cX6_breakLine 24 = .ok (.aload 4, 2) := by decide +kernel
theorem dX6_breakLine_26 : decode cX6_breakLine 26 = .ok (.dup, 1) := by decide +kernel
theorem dX6_breakLine_27 : decode cX6_breakLine 27 = .ok (.getfield 50, 3) := by decide +kernel
theorem dX6_breakLine_30 : decode cX6_breakLine 30 = .ok (.iconst 1, 1) := by decide +kernel
theorem dX6_breakLine_31 : decode cX6_breakLine 31 = .ok (.iadd, 1) := by decide +kernel
theorem dX6_breakLine_32 : decode cX6_breakLine 32 = .ok (.putfield 50, 3) := by decide +kernel
theorem dX6_breakLine_35 : decode cX6_breakLine 35 = .ok (.aload_n 0, 1) := by decide +kernel
theorem dX6_breakLine_36 : decode cX6_breakLine 36 = .ok (.dup, 1) := by decide +kernel
theorem dX6_breakLine_37 : decode cX6_breakLine 37 = .ok (.getfield 26, 3) := by decide +kernel
theorem dX6_breakLine_40 : decode cX6_breakLine 40 = .ok (.iconst 1, 1) := by decide +kernel
theorem dX6_breakLine_41 : decode cX6_breakLine 41 = .ok (.iadd, 1) := by decide +kernel
theorem dX6_breakLine_42 : decode cX6_breakLine 42 = .ok (.putfield 26, 3) := by decide +kernel
theorem dX6_breakLine_45 : decode cX6_breakLine 45 = .ok (.aload_n 1, 1) := by decide +kernel
theorem dX6_breakLine_46 : decode cX6_breakLine 46 = .ok (.iload_n 2, 1) := by decide +kernel
theorem dX6_breakLine_47 : decode cX6_breakLine 47 = .ok (.iconst 2, 1) := by decide +kernel
theorem dX6_breakLine_48 : decode cX6_breakLine 48 = .ok (.aload_n 0, 1) := by decide +kernel
theorem dX6_breakLine_49 : decode cX6_breakLine 49 = .ok (.getfield 26, 3) := by decide +kernel
theorem dX6_breakLine_52 : decode cX6_breakLine 52 = .ok (.invokevirtual 87, 3) := by decide +kernel
theorem dX6_breakLine_55 : decode cX6_breakLine 55 = .ok (.iload_n 3, 1) := by decide +kernel
theorem dX6_breakLine_56 : decode cX6_breakLine 56 = .ok (.ireturn, 1) := by decide +kernel
theorem dX6_mendLine_0 : decode cX6_mendLine 0 = .ok (.aload_n 0, 1) := by decide +kernel
theorem dX6_mendLine_1 : decode cX6_mendLine 1 = .ok (.dup, 1) := by decide +kernel
theorem dX6_mendLine_2 : decode cX6_mendLine 2 = .ok (.getfield 26, 3) := by decide +kernel
theorem dX6_mendLine_5 : decode cX6_mendLine 5 = .ok (.iconst 1, 1) := by decide +kernel
theorem dX6_mendLine_6 : decode cX6_mendLine 6 = .ok (.iadd, 1) := by decide +kernel
theorem dX6_mendLine_7 : decode cX6_mendLine 7 = .ok (.putfield 26, 3) := by decide +kernel
theorem dX6_mendLine_10 : decode cX6_mendLine 10 = .ok (.aload_n 1, 1) := by decide +kernel
theorem dX6_mendLine_11 : decode cX6_mendLine 11 = .ok (.iload_n 2, 1) := by decide +kernel
theorem dX6_mendLine_12 : decode cX6_mendLine 12 = .ok (.iconst 0, 1) := by decide +kernel
theorem dX6_mendLine_13 : decode cX6_mendLine 13 = .ok (.aload_n 0, 1) := by decide +kernel
theorem dX6_mendLine_14 : decode cX6_mendLine 14 = .ok (.getfield 26, 3) := by decide +kernel
theorem dX6_mendLine_17 : decode cX6_mendLine 17 = .ok (.invokevirtual 87, 3) := by decide +kernel
theorem dX6_mendLine_20 : decode cX6_mendLine 20 = .ok (.return_, 1) := by decide +kernel
theorem dX7_init_0 : decode cX7_init 0 = .ok (.aload_n 0, 1) := by decide +kernel
theorem dX7_init_1 : decode cX7_init 1 = .ok (.invokespecial 3, 3) := by decide +kernel
theorem dX7_init_4 : decode cX7_init 4 = .ok (.aload_n 0, 1) := by decide +kernel
theorem dX7_init_5 : decode cX7_init 5 = .ok (.iconst 4, 1) := by decide +kernel
theorem dX7_init_6 : decode cX7_init 6 = .ok (.newarray .int, 2) := by decide +kernel
theorem dX7_init_8 : decode cX7_init 8 = .ok (.putfield 9, 3) := by decide +kernel
theorem dX7_init_11 : decode cX7_init 11 = .ok (.aload_n 0, 1) := by decide +kernel
theorem dX7_init_12 : decode cX7_init 12 = .ok (.iconst 4, 1) := by decide +kernel
theorem dX7_init_13 : decode cX7_init 13 = .ok (.newarray .int, 2) := by decide +kernel
theorem dX7_init_15 : decode cX7_init 15 = .ok (.putfield 15, 3) := by decide +kernel
theorem dX7_init_18 : decode cX7_init 18 = .ok (.aload_n 0, 1) := by decide +kernel
theorem dX7_init_19 : decode cX7_init 19 = .ok (.iconst 4, 1) := by decide +kernel
theorem dX7_init_20 : decode cX7_init 20 = .ok (.newarray .int, 2) := by decide +kernel
theorem dX7_init_22 : decode cX7_init 22 = .ok (.putfield 18, 3) := by decide +kernel
theorem dX7_init_25 : decode cX7_init 25 = .ok (.return_, 1) := by decide +kernel
theorem dX7_loadOver_0 : decode cX7_loadOver 0 = .ok (.iload_n 1, 1) := by decide +kernel
theorem dX7_loadOver_1 : decode cX7_loadOver 1 = .ok (.ifCond .lt 17, 3) := by decide +kernel
theorem dX7_loadOver_4 : decode cX7_loadOver 4 = .ok (.iload_n 1, 1) := by decide +kernel
theorem dX7_loadOver_5 : decode cX7_loadOver 5 = .ok (.iconst 4, 1) := by decide +kernel
theorem dX7_loadOver_6 : decode cX7_loadOver 6 = .ok (.if_icmp .ge 12, 3) := by decide +kernel
theorem dX7_loadOver_9 : decode cX7_loadOver 9 = .ok (.aload_n 0, 1) := by decide +kernel
theorem dX7_loadOver_10 : decode cX7_loadOver 10 = .ok (.getfield 9, 3) := by decide +kernel
theorem dX7_loadOver_13 : decode cX7_loadOver 13 = .ok (.iload_n 1, 1) := by decide +kernel
theorem dX7_loadOver_14 : decode cX7_loadOver 14 = .ok (.iaload, 1) := by decide +kernel
theorem dX7_loadOver_15 : decode cX7_loadOver 15 = .ok (.goto 4, 3) := by decide +kernel
theorem dX7_loadOver_18 : decode cX7_loadOver 18 = .ok (.iconst 0, 1) := by decide +kernel
theorem dX7_loadOver_19 : decode cX7_loadOver 19 = .ok (.ireturn, 1) := by decide +kernel
theorem dX7_lossOf_0 : decode cX7_lossOf 0 = .ok (.iload_n 1, 1) := by decide +kernel
theorem dX7_lossOf_1 : decode cX7_lossOf 1 = .ok (.ifCond .lt 17, 3) := by decide +kernel
theorem dX7_lossOf_4 : decode cX7_lossOf 4 = .ok (.iload_n 1, 1) := by decide +kernel
theorem dX7_lossOf_5 : decode cX7_lossOf 5 = .ok (.iconst 4, 1) := by decide +kernel
theorem dX7_lossOf_6 : decode cX7_lossOf 6 = .ok (.if_icmp .ge 12, 3) := by decide +kernel
theorem dX7_lossOf_9 : decode cX7_lossOf 9 = .ok (.aload_n 0, 1) := by decide +kernel
theorem dX7_lossOf_10 : decode cX7_lossOf 10 = .ok (.getfield 18, 3) := by decide +kernel
theorem dX7_lossOf_13 : decode cX7_lossOf 13 = .ok (.iload_n 1, 1) := by decide +kernel
theorem dX7_lossOf_14 : decode cX7_lossOf 14 = .ok (.iaload, 1) := by decide +kernel
theorem dX7_lossOf_15 : decode cX7_lossOf 15 = .ok (.goto 4, 3) := by decide +kernel
theorem dX7_lossOf_18 : decode cX7_lossOf 18 = .ok (.iconst 0, 1) := by decide +kernel
theorem dX7_lossOf_19 : decode cX7_lossOf 19 = .ok (.ireturn, 1) := by decide +kernel
theorem dX7_settle_0 : decode cX7_settle 0 = .ok (.aload_n 0, 1) := by decide +kernel
theorem dX7_settle_1 : decode cX7_settle 1 = .ok (.getfield 9, 3) := by decide +kernel
theorem dX7_settle_4 : decode cX7_settle 4 = .ok (.iconst 0, 1) := by decide +kernel
theorem dX7_settle_5 : decode cX7_settle 5 = .ok (.invokestatic 21, 3) := by decide +kernel
theorem dX7_settle_8 : decode cX7_settle 8 = .ok (.iconst 1, 1) := by decide +kernel
theorem dX7_settle_9 : decode cX7_settle 9 = .ok (.istore_n 3, 1) := by decide +kernel
theorem dX7_settle_10 : decode cX7_settle 10 = .ok (.iconst 1, 1) := by decide +kernel
theorem dX7_settle_11 : decode cX7_settle 11 = .ok (.istore 4, 2) := by decide +kernel
theorem dX7_settle_13 : decode cX7_settle 13 = .ok (.iload 4, 2) := by decide +kernel
theorem dX7_settle_15 : decode cX7_settle 15 = .ok (.bipush 30, 2) := by decide +kernel
theorem dX7_settle_17 : decode cX7_settle 17 = .ok (.if_icmp .gt 35, 3) := by decide +kernel
theorem dX7_settle_20 : decode cX7_settle 20 = .ok (.iload_n 3, 1) := by decide +kernel
theorem dX7_settle_21 : decode cX7_settle 21 = .ok (.ifCond .eq 31, 3) := by decide +kernel
theorem dX7_settle_24 : decode cX7_settle 24 = .ok (.aload_n 0, 1) := by decide +kernel
theorem dX7_settle_25 : decode cX7_settle 25 = .ok (.iload 4, 2) := by decide +kernel
theorem dX7_settle_27 : decode cX7_settle 27 = .ok (.putfield 27, 3) := by decide +kernel
theorem dX7_settle_30 : decode cX7_settle 30 = .ok (.aload_n 0, 1) := by decide +kernel
theorem dX7_settle_31 : decode cX7_settle 31 = .ok (.aload_n 1, 1) := by decide +kernel
theorem dX7_settle_32 : decode cX7_settle 32 = .ok (.aload_n 2, 1) := by decide +kernel
theorem dX7_settle_33 : decode cX7_settle 33 = .ok (.invokevirtual 31, 3) := by decide +kernel
theorem dX7_settle_36 : decode cX7_settle 36 = .ok (.aload_n 0, 1) := by decide +kernel
theorem dX7_settle_37 : decode cX7_settle 37 = .ok (.aload_n 1, 1) := by decide +kernel
theorem dX7_settle_38 : decode cX7_settle 38 = .ok (.invokevirtual 35, 3) := by decide +kernel
theorem dX7_settle_41 : decode cX7_settle 41 = .ok (.aload_n 0, 1) := by decide +kernel
theorem dX7_settle_42 : decode cX7_settle 42 = .ok (.invokevirtual 39, 3) := by decide +kernel
theorem dX7_settle_45 : decode cX7_settle 45 = .ok (.istore_n 3, 1) := by decide +kernel
theorem dX7_settle_46 : decode cX7_settle 46 = .ok (.iinc 4 1, 3) := by decide +kernel
theorem dX7_settle_49 : decode cX7_settle 49 = .ok (.goto (-36), 3) := by decide +kernel
theorem dX7_settle_52 : decode cX7_settle 52 = .ok (.return_, 1) := by decide +kernel
theorem dX7_loseEach_0 : decode cX7_loseEach 0 = .ok (.iconst 0, 1) := by decide +kernel
theorem dX7_loseEach_1 : decode cX7_loseEach 1 = .ok (.istore_n 3, 1) := by decide +kernel
theorem dX7_loseEach_2 : decode cX7_loseEach 2 = .ok (.iload_n 3, 1) := by decide +kernel
theorem dX7_loseEach_3 : decode cX7_loseEach 3 = .ok (.aload_n 1, 1) := by decide +kernel
theorem dX7_loseEach_4 : decode cX7_loseEach 4 = .ok (.getfield 43, 3) := by decide +kernel
theorem dX7_loseEach_7 : decode cX7_loseEach 7 = .ok (.if_icmp .ge 83, 3) := by decide +kernel
theorem dX7_loseEach_10 : decode cX7_loseEach 10 = .ok (.aload_n 1, 1) := by decide +kernel
theorem dX7_loseEach_11 : decode cX7_loseEach 11 = .ok (.getfield 48, 3) := by decide +kernel
theorem dX7_loseEach_14 : decode cX7_loseEach 14 = .ok (.iload_n 3, 1) := by decide +kernel
theorem dX7_loseEach_15 : decode cX7_loseEach 15 = .ok (.aaload, 1) := by decide +kernel
theorem dX7_loseEach_16 : decode cX7_loseEach 16 = .ok (.astore 4, 2) := by decide +kernel
theorem dX7_loseEach_18 : decode cX7_loseEach 18 = .ok (.aload_n 2, 1) := by decide +kernel
theorem dX7_loseEach_19 : decode cX7_loseEach 19 = .ok (.ldc2_w 52, 3) := by decide +kernel
theorem dX7_loseEach_22 : decode cX7_loseEach 22 = .ok (.sipush 1000, 3) := by decide +kernel
theorem dX7_loseEach_25 : decode cX7_loseEach 25 = .ok (.aload 4, 2) := by decide +kernel
theorem dX7_loseEach_27 : decode cX7_loseEach 27 = .ok (.getfield 54, 3) := by decide +kernel
theorem dX7_loseEach_30 : decode cX7_loseEach 30 = .ok (.aload 4, 2) := by decide +kernel
theorem dX7_loseEach_32 : decode cX7_loseEach 32 = .ok (.getfield 59, 3) := by decide +kernel
theorem dX7_loseEach_35 : decode cX7_loseEach 35 = .ok (.aload 4, 2) := by decide +kernel
theorem dX7_loseEach_37 : decode cX7_loseEach 37 = .ok (.getfield 62, 3) := by decide +kernel
theorem dX7_loseEach_40 : decode cX7_loseEach 40 = .ok (.aload_n 0, 1) := by decide +kernel
theorem dX7_loseEach_41 : decode cX7_loseEach 41 = .ok (.getfield 9, 3) := by decide +kernel
theorem dX7_loseEach_44 : decode cX7_loseEach 44 = .ok (.iload_n 3, 1) := by decide +kernel
theorem dX7_loseEach_45 : decode cX7_loseEach 45 = .ok (.iaload, 1) := by decide +kernel
theorem dX7_loseEach_46 : decode cX7_loseEach 46 = .ok (.invokevirtual 65, 3) := by decide +kernel
theorem dX7_loseEach_49 : decode cX7_loseEach 49 = .ok (.aload_n 2, 1) := by decide +kernel
theorem dX7_loseEach_50 : decode cX7_loseEach 50 = .ok (.invokevirtual 71, 3) := by decide +kernel
theorem dX7_loseEach_53 : decode cX7_loseEach 53 = .ok (.lstore 5, 2) := by decide +kernel
theorem dX7_loseEach_55 : decode cX7_loseEach 55 = .ok (.aload_n 0, 1) := by decide +kernel
theorem dX7_loseEach_56 : decode cX7_loseEach 56 = .ok (.getfield 18, 3) := by decide +kernel
theorem dX7_loseEach_59 : decode cX7_loseEach 59 = .ok (.iload_n 3, 1) := by decide +kernel
theorem dX7_loseEach_60 : decode cX7_loseEach 60 = .ok (.lload 5, 2) := by decide +kernel
theorem dX7_loseEach_62 : decode cX7_loseEach 62 = .ok (.lconst 0, 1) := by decide +kernel
theorem dX7_loseEach_63 : decode cX7_loseEach 63 = .ok (.lcmp, 1) := by decide +kernel
theorem dX7_loseEach_64 : decode cX7_loseEach 64 = .ok (.ifCond .le 18, 3) := by decide +kernel
theorem dX7_loseEach_67 : decode cX7_loseEach 67 = .ok (.ldc2_w 75, 3) := by decide +kernel
theorem dX7_loseEach_70 : decode cX7_loseEach 70 = .ok (.aload_n 2, 1) := by decide +kernel
theorem dX7_loseEach_71 : decode cX7_loseEach 71 = .ok (.invokevirtual 77, 3) := by decide +kernel
theorem dX7_loseEach_74 : decode cX7_loseEach 74 = .ok (.lmul, 1) := by decide +kernel
theorem dX7_loseEach_75 : decode cX7_loseEach 75 = .ok (.lload 5, 2) := by decide +kernel
theorem dX7_loseEach_77 : decode cX7_loseEach 77 = .ok (.ldiv, 1) := by decide +kernel
theorem dX7_loseEach_78 : decode cX7_loseEach 78 = .ok (.l2i, 1) := by decide +kernel
theorem dX7_loseEach_79 : decode cX7_loseEach 79 = .ok (.goto 4, 3) := by decide +kernel
theorem dX7_loseEach_82 : decode cX7_loseEach 82 = .ok (.iconst 0, 1) := by decide +kernel
theorem dX7_loseEach_83 : decode cX7_loseEach 83 = .ok (.iastore, 1) := by decide +kernel
theorem dX7_loseEach_84 : decode cX7_loseEach 84 = .ok (.iinc 3 1, 3) := by decide +kernel
theorem dX7_loseEach_87 : decode cX7_loseEach 87 = .ok (.goto (-85), 3) := by decide +kernel
theorem dX7_loseEach_90 : decode cX7_loseEach 90 = .ok (.return_, 1) := by decide +kernel
theorem dX7_sendOver_0 : decode cX7_sendOver 0 = .ok (.aload_n 0, 1) := by decide +kernel
theorem dX7_sendOver_1 : decode cX7_sendOver 1 = .ok (.getfield 15, 3) := by decide +kernel
theorem dX7_sendOver_4 : decode cX7_sendOver 4 = .ok (.iconst 0, 1) := by decide +kernel
theorem dX7_sendOver_5 : decode cX7_sendOver 5 = .ok (.invokestatic 21, 3) := by decide +kernel
theorem dX7_sendOver_8 : decode cX7_sendOver 8 = .ok (.iconst 0, 1) := by decide +kernel
theorem dX7_sendOver_9 : decode cX7_sendOver 9 = .ok (.istore_n 2, 1) := by decide +kernel
theorem dX7_sendOver_10 : decode cX7_sendOver 10 = .ok (.iload_n 2, 1) := by decide +kernel
theorem dX7_sendOver_11 : decode cX7_sendOver 11 = .ok (.aload_n 1, 1) := by decide +kernel
theorem dX7_sendOver_12 : decode cX7_sendOver 12 = .ok (.getfield 43, 3) := by decide +kernel
theorem dX7_sendOver_15 : decode cX7_sendOver 15 = .ok (.if_icmp .ge 50, 3) := by decide +kernel
theorem dX7_sendOver_18 : decode cX7_sendOver 18 = .ok (.aload_n 1, 1) := by decide +kernel
theorem dX7_sendOver_19 : decode cX7_sendOver 19 = .ok (.getfield 48, 3) := by decide +kernel
theorem dX7_sendOver_22 : decode cX7_sendOver 22 = .ok (.iload_n 2, 1) := by decide +kernel
theorem dX7_sendOver_23 : decode cX7_sendOver 23 = .ok (.aaload, 1) := by decide +kernel
theorem dX7_sendOver_24 : decode cX7_sendOver 24 = .ok (.astore_n 3, 1) := by decide +kernel
theorem dX7_sendOver_25 : decode cX7_sendOver 25 = .ok (.aload_n 1, 1) := by decide +kernel
theorem dX7_sendOver_26 : decode cX7_sendOver 26 = .ok (.aload_n 3, 1) := by decide +kernel
theorem dX7_sendOver_27 : decode cX7_sendOver 27 = .ok (.getfield 80, 3) := by decide +kernel
theorem dX7_sendOver_30 : decode cX7_sendOver 30 = .ok (.invokevirtual 83, 3) := by decide +kernel
theorem dX7_sendOver_33 : decode cX7_sendOver 33 = .ok (.ifnull 26, 3) := by decide +kernel
theorem dX7_sendOver_36 : decode cX7_sendOver 36 = .ok (.aload_n 0, 1) := by decide +kernel
theorem dX7_sendOver_37 : decode cX7_sendOver 37 = .ok (.getfield 15, 3) := by decide +kernel
theorem dX7_sendOver_40 : decode cX7_sendOver 40 = .ok (.aload_n 3, 1) := by decide +kernel
theorem dX7_sendOver_41 : decode cX7_sendOver 41 = .ok (.getfield 80, 3) := by decide +kernel
theorem dX7_sendOver_44 : decode cX7_sendOver 44 = .ok (.dup2, 1) := by decide +kernel
theorem dX7_sendOver_45 : decode cX7_sendOver 45 = .ok (.iaload, 1) := by decide +kernel
theorem dX7_sendOver_46 : decode cX7_sendOver 46 = .ok (.aload_n 3, 1) := by decide +kernel
theorem dX7_sendOver_47 : decode cX7_sendOver 47 = .ok (.getfield 59, 3) := by decide +kernel
theorem dX7_sendOver_50 : decode cX7_sendOver 50 = .ok (.aload_n 0, 1) := by decide +kernel
theorem dX7_sendOver_51 : decode cX7_sendOver 51 = .ok (.getfield 18, 3) := by decide +kernel
theorem dX7_sendOver_54 : decode cX7_sendOver 54 = .ok (.iload_n 2, 1) := by decide +kernel
theorem dX7_sendOver_55 : decode cX7_sendOver 55 = .ok (.iaload, 1) := by decide +kernel
theorem dX7_sendOver_56 : decode cX7_sendOver 56 = .ok (.imul, 1) := by decide +kernel
theorem dX7_sendOver_57 : decode cX7_sendOver 57 = .ok (.iadd, 1) := by decide +kernel
theorem dX7_sendOver_58 : decode cX7_sendOver 58 = .ok (.iastore, 1) := by decide +kernel
theorem dX7_sendOver_59 : decode cX7_sendOver 59 = .ok (.iinc 2 1, 3) := by decide +kernel
theorem dX7_sendOver_62 : decode cX7_sendOver 62 = .ok (.goto (-52), 3) := by decide +kernel
theorem dX7_sendOver_65 : decode cX7_sendOver 65 = .ok (.return_, 1) := by decide +kernel
theorem dX7_takeNewLoads_0 : decode cX7_takeNewLoads 0 = .ok (.iconst 0, 1) := by decide +kernel
theorem dX7_takeNewLoads_1 : decode cX7_takeNewLoads 1 = .ok (.istore_n 1, 1) := by decide +kernel
theorem dX7_takeNewLoads_2 : decode cX7_takeNewLoads 2 = .ok (.iconst 0, 1) := by decide +kernel
theorem dX7_takeNewLoads_3 : decode cX7_takeNewLoads 3 = .ok (.istore_n 2, 1) := by decide +kernel
theorem dX7_takeNewLoads_4 : decode cX7_takeNewLoads 4 = .ok (.iload_n 2, 1) := by decide +kernel
theorem dX7_takeNewLoads_5 : decode cX7_takeNewLoads 5 = .ok (.iconst 4, 1) := by decide +kernel
theorem dX7_takeNewLoads_6 : decode cX7_takeNewLoads 6 = .ok (.if_icmp .ge 44, 3) := by decide +kernel
theorem dX7_takeNewLoads_9 : decode cX7_takeNewLoads 9 = .ok (.iload_n 1, 1) := by decide +kernel
theorem dX7_takeNewLoads_10 : decode cX7_takeNewLoads 10 = .ok (.aload_n 0, 1) := by decide +kernel
theorem dX7_takeNewLoads_11 : decode cX7_takeNewLoads 11 = .ok (.getfield 9, 3) := by decide +kernel
theorem dX7_takeNewLoads_14 : decode cX7_takeNewLoads 14 = .ok (.iload_n 2, 1) := by decide +kernel
theorem dX7_takeNewLoads_15 : decode cX7_takeNewLoads 15 = .ok (.iaload, 1) := by decide +kernel
theorem dX7_takeNewLoads_16 : decode cX7_takeNewLoads 16 = .ok (.aload_n 0, 1) := by decide +kernel
theorem dX7_takeNewLoads_17 : decode cX7_takeNewLoads 17 = .ok (.getfield 15, 3) := by decide +kernel
theorem dX7_takeNewLoads_20 : decode cX7_takeNewLoads 20 = .ok (.iload_n 2, 1) := by decide +kernel
theorem dX7_takeNewLoads_21 : decode cX7_takeNewLoads 21 = .ok (.iaload, 1) := by decide +kernel
theorem dX7_takeNewLoads_22 : decode cX7_takeNewLoads 22 = .ok (.if_icmp .eq 7, 3) := by decide +kernel
theorem dX7_takeNewLoads_25 : decode cX7_takeNewLoads 25 = .ok (.iconst 1, 1) := by decide +kernel
theorem dX7_takeNewLoads_26 : decode cX7_takeNewLoads 26 = .ok (.goto 4, 3) := by decide +kernel
theorem dX7_takeNewLoads_29 : decode cX7_takeNewLoads 29 = .ok (.iconst 0, 1) := by decide +kernel
theorem dX7_takeNewLoads_30 : decode cX7_takeNewLoads 30 = .ok (.ior, 1) := by decide +kernel
theorem dX7_takeNewLoads_31 : decode cX7_takeNewLoads 31 = .ok (.istore_n 1, 1) := by decide +kernel
theorem dX7_takeNewLoads_32 : decode cX7_takeNewLoads 32 = .ok (.aload_n 0, 1) := by decide +kernel
theorem dX7_takeNewLoads_33 : decode cX7_takeNewLoads 33 = .ok (.getfield 9, 3) := by decide +kernel
theorem dX7_takeNewLoads_36 : decode cX7_takeNewLoads 36 = .ok (.iload_n 2, 1) := by decide +kernel
theorem dX7_takeNewLoads_37 : decode cX7_takeNewLoads 37 = .ok (.aload_n 0, 1) := by decide +kernel
theorem dX7_takeNewLoads_38 : decode cX7_takeNewLoads 38 = .ok (.getfield 15, 3) := by decide +kernel
theorem dX7_takeNewLoads_41 : decode cX7_takeNewLoads 41 = .ok (.iload_n 2, 1) := by decide +kernel
theorem dX7_takeNewLoads_42 : decode cX7_takeNewLoads 42 = .ok (.iaload, 1) := by decide +kernel
theorem dX7_takeNewLoads_43 : decode cX7_takeNewLoads 43 = .ok (.iastore, 1) := by decide +kernel
theorem dX7_takeNewLoads_44 : decode cX7_takeNewLoads 44 = .ok (.iinc 2 1, 3) := by decide +kernel
theorem dX7_takeNewLoads_47 : decode cX7_takeNewLoads 47 = .ok (.goto (-43), 3) := by decide +kernel
theorem dX7_takeNewLoads_50 : decode cX7_takeNewLoads 50 = .ok (.iload_n 1, 1) := by decide +kernel
theorem dX7_takeNewLoads_51 : decode cX7_takeNewLoads 51 = .ok (.ireturn, 1) := by decide +kernel
theorem dX8_init_0 : decode cX8_init 0 = .ok (.aload_n 0, 1) := by decide +kernel
theorem dX8_init_1 : decode cX8_init 1 = .ok (.invokespecial 3, 3) := by decide +kernel
theorem dX8_init_4 : decode cX8_init 4 = .ok (.aload_n 0, 1) := by decide +kernel
theorem dX8_init_5 : decode cX8_init 5 = .ok (.bipush 7, 2) := by decide +kernel
theorem dX8_init_7 : decode cX8_init 7 = .ok (.newarray .long, 2) := by decide +kernel
theorem dX8_init_9 : decode cX8_init 9 = .ok (.putfield 9, 3) := by decide +kernel
theorem dX8_init_12 : decode cX8_init 12 = .ok (.return_, 1) := by decide +kernel
theorem dX8_weighExactly_0 : decode cX8_weighExactly 0 = .ok (.lconst 1, 1) := by decide +kernel
theorem dX8_weighExactly_1 : decode cX8_weighExactly 1 = .ok (.lstore 5, 2) := by decide +kernel
theorem dX8_weighExactly_3 : decode cX8_weighExactly 3 = .ok (.iconst 2, 1) := by decide +kernel
theorem dX8_weighExactly_4 : decode cX8_weighExactly 4 = .ok (.istore 7, 2) := by decide +kernel
theorem dX8_weighExactly_6 : decode cX8_weighExactly 6 = .ok (.iload 7, 2) := by decide +kernel
theorem dX8_weighExactly_8 : decode cX8_weighExactly 8 = .ok (.iload_n 1, 1) := by decide +kernel
theorem dX8_weighExactly_9 : decode cX8_weighExactly 9 = .ok (.if_icmp .gt 17, 3) := by decide +kernel
theorem dX8_weighExactly_12 : decode cX8_weighExactly 12 = .ok (.lload 5, 2) := by decide +kernel
theorem dX8_weighExactly_14 : decode cX8_weighExactly 14 = .ok (.iload 7, 2) := by decide +kernel
theorem dX8_weighExactly_16 : decode cX8_weighExactly 16 = .ok (.i2l, 1) := by decide +kernel
theorem dX8_weighExactly_17 : decode cX8_weighExactly 17 = .ok (.lmul, 1) := by decide +kernel
theorem dX8_weighExactly_18 : decode cX8_weighExactly 18 = .ok (.lstore 5, 2) := by decide +kernel
theorem dX8_weighExactly_20 : decode cX8_weighExactly 20 = .ok (.iinc 7 1, 3) := by decide +kernel
theorem dX8_weighExactly_23 : decode cX8_weighExactly 23 = .ok (.goto (-17), 3) := by decide +kernel
theorem dX8_weighExactly_26 : decode cX8_weighExactly 26 = .ok (.aload_n 0, 1) := by decide +kernel
theorem dX8_weighExactly_27 : decode cX8_weighExactly 27 = .ok (.lload 5, 2) := by decide +kernel
theorem dX8_weighExactly_29 : decode cX8_weighExactly 29 = .ok (.iconst 1, 1) := by decide +kernel
theorem dX8_weighExactly_30 : decode cX8_weighExactly 30 = .ok (.iload_n 1, 1) := by decide +kernel
theorem dX8_weighExactly_31 : decode cX8_weighExactly 31 = .ok (.iload_n 2, 1) := by decide +kernel
theorem dX8_weighExactly_32 : decode cX8_weighExactly 32 = .ok (.iload_n 3, 1) := by decide +kernel
theorem dX8_weighExactly_33 : decode cX8_weighExactly 33 = .ok (.iload 4, 2) := by decide +kernel
theorem dX8_weighExactly_35 : decode cX8_weighExactly 35 = .ok (.invokevirtual 15, 3) := by decide +kernel
theorem dX8_weighExactly_38 : decode cX8_weighExactly 38 = .ok (.return_, 1) := by decide +kernel
theorem dX8_weigh_0 : decode cX8_weigh 0 = .ok (.aload_n 0, 1) := by decide +kernel
theorem dX8_weigh_1 : decode cX8_weigh 1 = .ok (.iconst 0, 1) := by decide +kernel
theorem dX8_weigh_2 : decode cX8_weigh 2 = .ok (.iload 4, 2) := by decide +kernel
theorem dX8_weigh_4 : decode cX8_weigh 4 = .ok (.bipush 6, 2) := by decide +kernel
theorem dX8_weigh_6 : decode cX8_weigh 6 = .ok (.invokestatic 19, 3) := by decide +kernel
theorem dX8_weigh_9 : decode cX8_weigh 9 = .ok (.invokestatic 25, 3) := by decide +kernel
theorem dX8_weigh_12 : decode cX8_weigh 12 = .ok (.putfield 28, 3) := by decide +kernel
theorem dX8_weigh_15 : decode cX8_weigh 15 = .ok (.aload_n 0, 1) := by decide +kernel
theorem dX8_weigh_16 : decode cX8_weigh 16 = .ok (.iload 6, 2) := by decide +kernel
theorem dX8_weigh_18 : decode cX8_weigh 18 = .ok (.putfield 32, 3) := by decide +kernel
theorem dX8_weigh_21 : decode cX8_weigh 21 = .ok (.aload_n 0, 1) := by decide +kernel
theorem dX8_weigh_22 : decode cX8_weigh 22 = .ok (.getfield 9, 3) := by decide +kernel
theorem dX8_weigh_25 : decode cX8_weigh 25 = .ok (.iconst 0, 1) := by decide +kernel
theorem dX8_weigh_26 : decode cX8_weigh 26 = .ok (.lload_n 1, 1) := by decide +kernel
theorem dX8_weigh_27 : decode cX8_weigh 27 = .ok (.lastore, 1) := by decide +kernel
theorem dX8_weigh_28 : decode cX8_weigh 28 = .ok (.iconst 0, 1) := by decide +kernel
theorem dX8_weigh_29 : decode cX8_weigh 29 = .ok (.istore 8, 2) := by decide +kernel
theorem dX8_weigh_31 : decode cX8_weigh 31 = .ok (.iload 8, 2) := by decide +kernel
theorem dX8_weigh_33 : decode cX8_weigh 33 = .ok (.aload_n 0, 1) := by decide +kernel
theorem dX8_weigh_34 : decode cX8_weigh 34 = .ok (.getfield 28, 3) := by decide +kernel
theorem dX8_weigh_37 : decode cX8_weigh 37 = .ok (.if_icmp .ge 70, 3) := by decide +kernel
theorem dX8_weigh_40 : decode cX8_weigh 40 = .ok (.iload_n 3, 1) := by decide +kernel
theorem dX8_weigh_41 : decode cX8_weigh 41 = .ok (.i2l, 1) := by decide +kernel
theorem dX8_weigh_42 : decode cX8_weigh 42 = .ok (.iload 5, 2) := by decide +kernel
theorem dX8_weigh_44 : decode cX8_weigh 44 = .ok (.i2l, 1) := by decide +kernel
theorem dX8_weigh_45 : decode cX8_weigh 45 = .ok (.lmul, 1) := by decide +kernel
theorem dX8_weigh_46 : decode cX8_weigh 46 = .ok (.aload_n 0, 1) := by decide +kernel
theorem dX8_weigh_47 : decode cX8_weigh 47 = .ok (.iload 8, 2) := by decide +kernel
theorem dX8_weigh_49 : decode cX8_weigh 49 = .ok (.invokevirtual 35, 3) := by decide +kernel
theorem dX8_weigh_52 : decode cX8_weigh 52 = .ok (.ifCond .eq 8, 3) := by decide +kernel
theorem dX8_weigh_55 : decode cX8_weigh 55 = .ok (.iload 7, 2) := by decide +kernel
theorem dX8_weigh_57 : decode cX8_weigh 57 = .ok (.goto 4, 3) := by decide +kernel
theorem dX8_weigh_60 : decode cX8_weigh 60 = .ok (.iconst 0, 1) := by decide +kernel
theorem dX8_weigh_61 : decode cX8_weigh 61 = .ok (.i2l, 1) := by decide +kernel
theorem dX8_weigh_62 : decode cX8_weigh 62 = .ok (.ladd, 1) := by decide +kernel
theorem dX8_weigh_63 : decode cX8_weigh 63 = .ok (.lstore 9, 2) := by decide +kernel
theorem dX8_weigh_65 : decode cX8_weigh 65 = .ok (.lconst 1, 1) := by decide +kernel
theorem dX8_weigh_66 : decode cX8_weigh 66 = .ok (.iload_n 3, 1) := by decide +kernel
theorem dX8_weigh_67 : decode cX8_weigh 67 = .ok (.i2l, 1) := by decide +kernel
theorem dX8_weigh_68 : decode cX8_weigh 68 = .ok (.iload 8, 2) := by decide +kernel
theorem dX8_weigh_70 : decode cX8_weigh 70 = .ok (.iconst 1, 1) := by decide +kernel
theorem dX8_weigh_71 : decode cX8_weigh 71 = .ok (.iadd, 1) := by decide +kernel
theorem dX8_weigh_72 : decode cX8_weigh 72 = .ok (.i2l, 1) := by decide +kernel
theorem dX8_weigh_73 : decode cX8_weigh 73 = .ok (.lmul, 1) := by decide +kernel
theorem dX8_weigh_74 : decode cX8_weigh 74 = .ok (.invokestatic 39, 3) := by decide +kernel
theorem dX8_weigh_77 : decode cX8_weigh 77 = .ok (.lstore 11, 2) := by decide +kernel
theorem dX8_weigh_79 : decode cX8_weigh 79 = .ok (.aload_n 0, 1) := by decide +kernel
theorem dX8_weigh_80 : decode cX8_weigh 80 = .ok (.getfield 9, 3) := by decide +kernel
theorem dX8_weigh_83 : decode cX8_weigh 83 = .ok (.iload 8, 2) := by decide +kernel
theorem dX8_weigh_85 : decode cX8_weigh 85 = .ok (.iconst 1, 1) := by decide +kernel
theorem dX8_weigh_86 : decode cX8_weigh 86 = .ok (.iadd, 1) := by decide +kernel
theorem dX8_weigh_87 : decode cX8_weigh 87 = .ok (.aload_n 0, 1) := by decide +kernel
theorem dX8_weigh_88 : decode cX8_weigh 88 = .ok (.getfield 9, 3) := by decide +kernel
theorem dX8_weigh_91 : decode cX8_weigh 91 = .ok (.iload 8, 2) := by decide +kernel
theorem dX8_weigh_93 : decode cX8_weigh 93 = .ok (.laload, 1) := by decide +kernel
theorem dX8_weigh_94 : decode cX8_weigh 94 = .ok (.lload 9, 2) := by decide +kernel
theorem dX8_weigh_96 : decode cX8_weigh 96 = .ok (.lmul, 1) := by decide +kernel
theorem dX8_weigh_97 : decode cX8_weigh 97 = .ok (.lload 11, 2) := by decide +kernel
theorem dX8_weigh_99 : decode cX8_weigh 99 = .ok (.ldiv, 1) := by decide +kernel
theorem dX8_weigh_100 : decode cX8_weigh 100 = .ok (.lastore, 1) := by decide +kernel
theorem dX8_weigh_101 : decode cX8_weigh 101 = .ok (.iinc 8 1, 3) := by decide +kernel
theorem dX8_weigh_104 : decode cX8_weigh 104 = .ok (.goto (-73), 3) := by decide +kernel
theorem dX8_weigh_107 : decode cX8_weigh 107 = .ok (.return_, 1) := by decide +kernel
theorem dX8_takesOver_0 : decode cX8_takesOver 0 = .ok (.aload_n 0, 1) := by decide +kernel
theorem dX8_takesOver_1 : decode cX8_takesOver 1 = .ok (.getfield 28, 3) := by decide +kernel
theorem dX8_takesOver_4 : decode cX8_takesOver 4 = .ok (.iload_n 1, 1) := by decide +kernel
theorem dX8_takesOver_5 : decode cX8_takesOver 5 = .ok (.isub, 1) := by decide +kernel
theorem dX8_takesOver_6 : decode cX8_takesOver 6 = .ok (.aload_n 0, 1) := by decide +kernel
theorem dX8_takesOver_7 : decode cX8_takesOver 7 = .ok (.getfield 32, 3) := by decide +kernel
theorem dX8_takesOver_10 : decode cX8_takesOver 10 = .ok (.if_icmp .le 7, 3) := by decide +kernel
theorem dX8_takesOver_13 : decode cX8_takesOver 13 = .ok (.iconst 1, 1) := by decide +kernel
theorem dX8_takesOver_14 : decode cX8_takesOver 14 = .ok (.goto 4, 3) := by decide +kernel
theorem dX8_takesOver_17 : decode cX8_takesOver 17 = .ok (.iconst 0, 1) := by decide +kernel
theorem dX8_takesOver_18 : decode cX8_takesOver 18 = .ok (.ireturn, 1) := by decide +kernel
theorem dX8_all_0 : decode cX8_all 0 = .ok (.lconst 0, 1) := by decide +kernel
theorem dX8_all_1 : decode cX8_all 1 = .ok (.lstore_n 1, 1) := by decide +kernel
theorem dX8_all_2 : decode cX8_all 2 = .ok (.iconst 0, 1) := by decide +kernel
theorem dX8_all_3 : decode cX8_all 3 = .ok (.istore_n 3, 1) := by decide +kernel
theorem dX8_all_4 : decode cX8_all 4 = .ok (.iload_n 3, 1) := by decide +kernel
theorem dX8_all_5 : decode cX8_all 5 = .ok (.aload_n 0, 1) := by decide +kernel
theorem dX8_all_6 : decode cX8_all 6 = .ok (.getfield 28, 3) := by decide +kernel
theorem dX8_all_9 : decode cX8_all 9 = .ok (.if_icmp .gt 18, 3) := by decide +kernel
theorem dX8_all_12 : decode cX8_all 12 = .ok (.lload_n 1, 1) := by decide +kernel
theorem dX8_all_13 : decode cX8_all 13 = .ok (.aload_n 0, 1) := by decide +kernel
theorem dX8_all_14 : decode cX8_all 14 = .ok (.getfield 9, 3) := by decide +kernel
theorem dX8_all_17 : decode cX8_all 17 = .ok (.iload_n 3, 1) := by decide +kernel
theorem dX8_all_18 : decode cX8_all 18 = .ok (.laload, 1) := by decide +kernel
theorem dX8_all_19 : decode cX8_all 19 = .ok (.ladd, 1) := by decide +kernel
theorem dX8_all_20 : decode cX8_all 20 = .ok (.lstore_n 1, 1) := by decide +kernel
theorem dX8_all_21 : decode cX8_all 21 = .ok (.iinc 3 1, 3) := by decide +kernel
theorem dX8_all_24 : decode cX8_all 24 = .ok (.goto (-20), 3) := by decide +kernel
theorem dX8_all_27 : decode cX8_all 27 = .ok (.lload_n 1, 1) := by decide +kernel
theorem dX8_all_28 : decode cX8_all 28 = .ok (.lreturn, 1) := by decide +kernel
theorem dX8_ofAllHeld_0 : decode cX8_ofAllHeld 0 = .ok (.aload_n 0, 1) := by decide +kernel
theorem dX8_ofAllHeld_1 : decode cX8_ofAllHeld 1 = .ok (.getfield 9, 3) := by decide +kernel
theorem dX8_ofAllHeld_4 : decode cX8_ofAllHeld 4 = .ok (.aload_n 0, 1) := by decide +kernel
theorem dX8_ofAllHeld_5 : decode cX8_ofAllHeld 5 = .ok (.getfield 28, 3) := by decide +kernel
theorem dX8_ofAllHeld_8 : decode cX8_ofAllHeld 8 = .ok (.laload, 1) := by decide +kernel
theorem dX8_ofAllHeld_9 : decode cX8_ofAllHeld 9 = .ok (.lreturn, 1) := by decide +kernel
theorem dX8_ofRefusing_0 : decode cX8_ofRefusing 0 = .ok (.lconst 0, 1) := by decide +kernel
theorem dX8_ofRefusing_1 : decode cX8_ofRefusing 1 = .ok (.lstore_n 1, 1) := by decide +kernel
theorem dX8_ofRefusing_2 : decode cX8_ofRefusing 2 = .ok (.iconst 0, 1) := by decide +kernel
theorem dX8_ofRefusing_3 : decode cX8_ofRefusing 3 = .ok (.istore_n 3, 1) := by decide +kernel
theorem dX8_ofRefusing_4 : decode cX8_ofRefusing 4 = .ok (.iload_n 3, 1) := by decide +kernel
theorem dX8_ofRefusing_5 : decode cX8_ofRefusing 5 = .ok (.aload_n 0, 1) := by decide +kernel
theorem dX8_ofRefusing_6 : decode cX8_ofRefusing 6 = .ok (.getfield 28, 3) := by decide +kernel
theorem dX8_ofRefusing_9 : decode cX8_ofRefusing 9 = .ok (.if_icmp .gt 26, 3) := by decide +kernel
theorem dX8_ofRefusing_12 : decode cX8_ofRefusing 12 = .ok (.aload_n 0, 1) := by decide +kernel
theorem dX8_ofRefusing_13 : decode cX8_ofRefusing 13 = .ok (.iload_n 3, 1) := by decide +kernel
theorem dX8_ofRefusing_14 : decode cX8_ofRefusing 14 = .ok (.invokevirtual 35, 3) := by decide +kernel
theorem dX8_ofRefusing_17 : decode cX8_ofRefusing 17 = .ok (.ifCond .ne 12, 3) := by decide +kernel
theorem dX8_ofRefusing_20 : decode cX8_ofRefusing 20 = .ok (.lload_n 1, 1) := by decide +kernel
theorem dX8_ofRefusing_21 : decode cX8_ofRefusing 21 = .ok (.aload_n 0, 1) := by decide +kernel
theorem dX8_ofRefusing_22 : decode cX8_ofRefusing 22 = .ok (.getfield 9, 3) := by decide +kernel
theorem dX8_ofRefusing_25 : decode cX8_ofRefusing 25 = .ok (.iload_n 3, 1) := by decide +kernel
theorem dX8_ofRefusing_26 : decode cX8_ofRefusing 26 = .ok (.laload, 1) := by decide +kernel
theorem dX8_ofRefusing_27 : decode cX8_ofRefusing 27 = .ok (.ladd, 1) := by decide +kernel
theorem dX8_ofRefusing_28 : decode cX8_ofRefusing 28 = .ok (.lstore_n 1, 1) := by decide +kernel
theorem dX8_ofRefusing_29 : decode cX8_ofRefusing 29 = .ok (.iinc 3 1, 3) := by decide +kernel
theorem dX8_ofRefusing_32 : decode cX8_ofRefusing 32 = .ok (.goto (-28), 3) := by decide +kernel
theorem dX8_ofRefusing_35 : decode cX8_ofRefusing 35 = .ok (.lload_n 1, 1) := by decide +kernel
theorem dX8_ofRefusing_36 : decode cX8_ofRefusing 36 = .ok (.lreturn, 1) := by decide +kernel
theorem dX8_timesHeld_0 : decode cX8_timesHeld 0 = .ok (.lconst 0, 1) := by decide +kernel
theorem dX8_timesHeld_1 : decode cX8_timesHeld 1 = .ok (.lstore_n 1, 1) := by decide +kernel
theorem dX8_timesHeld_2 : decode cX8_timesHeld 2 = .ok (.iconst 0, 1) := by decide +kernel
theorem dX8_timesHeld_3 : decode cX8_timesHeld 3 = .ok (.istore_n 3, 1) := by decide +kernel
theorem dX8_timesHeld_4 : decode cX8_timesHeld 4 = .ok (.iload_n 3, 1) := by decide +kernel
theorem dX8_timesHeld_5 : decode cX8_timesHeld 5 = .ok (.aload_n 0, 1) := by decide +kernel
theorem dX8_timesHeld_6 : decode cX8_timesHeld 6 = .ok (.getfield 28, 3) := by decide +kernel
theorem dX8_timesHeld_9 : decode cX8_timesHeld 9 = .ok (.if_icmp .gt 21, 3) := by decide +kernel
theorem dX8_timesHeld_12 : decode cX8_timesHeld 12 = .ok (.lload_n 1, 1) := by decide +kernel
theorem dX8_timesHeld_13 : decode cX8_timesHeld 13 = .ok (.iload_n 3, 1) := by decide +kernel
theorem dX8_timesHeld_14 : decode cX8_timesHeld 14 = .ok (.i2l, 1) := by decide +kernel
theorem dX8_timesHeld_15 : decode cX8_timesHeld 15 = .ok (.aload_n 0, 1) := by decide +kernel
theorem dX8_timesHeld_16 : decode cX8_timesHeld 16 = .ok (.getfield 9, 3) := by decide +kernel
theorem dX8_timesHeld_19 : decode cX8_timesHeld 19 = .ok (.iload_n 3, 1) := by decide +kernel
theorem dX8_timesHeld_20 : decode cX8_timesHeld 20 = .ok (.laload, 1) := by decide +kernel
theorem dX8_timesHeld_21 : decode cX8_timesHeld 21 = .ok (.lmul, 1) := by decide +kernel
theorem dX8_timesHeld_22 : decode cX8_timesHeld 22 = .ok (.ladd, 1) := by decide +kernel
theorem dX8_timesHeld_23 : decode cX8_timesHeld 23 = .ok (.lstore_n 1, 1) := by decide +kernel
theorem dX8_timesHeld_24 : decode cX8_timesHeld 24 = .ok (.iinc 3 1, 3) := by decide +kernel
theorem dX8_timesHeld_27 : decode cX8_timesHeld 27 = .ok (.goto (-23), 3) := by decide +kernel
theorem dX8_timesHeld_30 : decode cX8_timesHeld 30 = .ok (.lload_n 1, 1) := by decide +kernel
theorem dX8_timesHeld_31 : decode cX8_timesHeld 31 = .ok (.lreturn, 1) := by decide +kernel
theorem dX8_losesAtMost_0 : decode cX8_losesAtMost 0 = .ok (.ldc2_w 42, 3) := by decide +kernel
theorem dX8_losesAtMost_3 : decode cX8_losesAtMost 3 = .ok (.aload_n 0, 1) := by decide +kernel
theorem dX8_losesAtMost_4 : decode cX8_losesAtMost 4 = .ok (.invokevirtual 44, 3) := by decide +kernel
theorem dX8_losesAtMost_7 : decode cX8_losesAtMost 7 = .ok (.lmul, 1) := by decide +kernel
theorem dX8_losesAtMost_8 : decode cX8_losesAtMost 8 = .ok (.iload_n 1, 1) := by decide +kernel
theorem dX8_losesAtMost_9 : decode cX8_losesAtMost 9 = .ok (.i2l, 1) := by decide +kernel
theorem dX8_losesAtMost_10 : decode cX8_losesAtMost 10 = .ok (.aload_n 0, 1) := by decide +kernel
theorem dX8_losesAtMost_11 : decode cX8_losesAtMost 11 = .ok (.invokevirtual 48, 3) := by decide +kernel
theorem dX8_losesAtMost_14 : decode cX8_losesAtMost 14 = .ok (.lmul, 1) := by decide +kernel
theorem dX8_losesAtMost_15 : decode cX8_losesAtMost 15 = .ok (.lcmp, 1) := by decide +kernel
theorem dX8_losesAtMost_16 : decode cX8_losesAtMost 16 = .ok (.ifCond .gt 7, 3) := by decide +kernel
theorem dX8_losesAtMost_19 : decode cX8_losesAtMost 19 = .ok (.iconst 1, 1) := by decide +kernel
theorem dX8_losesAtMost_20 : decode cX8_losesAtMost 20 = .ok (.goto 4, 3) := by decide +kernel
theorem dX8_losesAtMost_23 : decode cX8_losesAtMost 23 = .ok (.iconst 0, 1) := by decide +kernel
theorem dX8_losesAtMost_24 : decode cX8_losesAtMost 24 = .ok (.ireturn, 1) := by decide +kernel
theorem dX9_init_0 : decode cX9_init 0 = .ok (.aload_n 0, 1) := by decide +kernel
theorem dX9_init_1 : decode cX9_init 1 = .ok (.invokespecial 1, 3) := by decide +kernel
theorem dX9_init_4 : decode cX9_init 4 = .ok (.aload_n 0, 1) := by decide +kernel
theorem dX9_init_5 : decode cX9_init 5 = .ok (.new 7, 3) := by decide +kernel
theorem dX9_init_8 : decode cX9_init 8 = .ok (.dup, 1) := by decide +kernel
theorem dX9_init_9 : decode cX9_init 9 = .ok (.invokespecial 9, 3) := by decide +kernel
theorem dX9_init_12 : decode cX9_init 12 = .ok (.putfield 10, 3) := by decide +kernel
theorem dX9_init_15 : decode cX9_init 15 = .ok (.aload_n 0, 1) := by decide +kernel
theorem dX9_init_16 : decode cX9_init 16 = .ok (.new 16, 3) := by decide +kernel
theorem dX9_init_19 : decode cX9_init 19 = .ok (.dup, 1) := by decide +kernel
theorem dX9_init_20 : decode cX9_init 20 = .ok (.invokespecial 18, 3) := by decide +kernel
theorem dX9_init_23 : decode cX9_init 23 = .ok (.putfield 19, 3) := by decide +kernel
theorem dX9_init_26 : decode cX9_init 26 = .ok (.aload_n 0, 1) := by decide +kernel
theorem dX9_init_27 : decode cX9_init 27 = .ok (.iconst 2, 1) := by decide +kernel
theorem dX9_init_28 : decode cX9_init 28 = .ok (.anewarray 23, 3) := by decide +kernel
theorem dX9_init_31 : decode cX9_init 31 = .ok (.putfield 25, 3) := by decide +kernel
theorem dX9_init_34 : decode cX9_init 34 = .ok (.iconst 0, 1) := by decide +kernel
theorem dX9_init_35 : decode cX9_init 35 = .ok (.istore_n 1, 1) := by decide +kernel
theorem dX9_init_36 : decode cX9_init 36 = .ok (.iload_n 1, 1) := by decide +kernel
theorem dX9_init_37 : decode cX9_init 37 = .ok (.iconst 2, 1) := by decide +kernel
theorem dX9_init_38 : decode cX9_init 38 = .ok (.if_icmp .ge 22, 3) := by decide +kernel
theorem dX9_init_41 : decode cX9_init 41 = .ok (.aload_n 0, 1) := by decide +kernel
theorem dX9_init_42 : decode cX9_init 42 = .ok (.getfield 25, 3) := by decide +kernel
theorem dX9_init_45 : decode cX9_init 45 = .ok (.iload_n 1, 1) := by decide +kernel
theorem dX9_init_46 : decode cX9_init 46 = .ok (.new 23, 3) := by decide +kernel
theorem dX9_init_49 : decode cX9_init 49 = .ok (.dup, 1) := by decide +kernel
theorem dX9_init_50 : decode cX9_init 50 = .ok (.invokespecial 29, 3) := by decide +kernel
theorem dX9_init_53 : decode cX9_init 53 = .ok (.aastore, 1) := by decide +kernel
theorem dX9_init_54 : decode cX9_init 54 = .ok (.iinc 1 1, 3) := by decide +kernel
theorem dX9_init_57 : decode cX9_init 57 = .ok (.goto (-21), 3) := by decide +kernel
theorem dX9_init_60 : decode cX9_init 60 = .ok (.aload_n 0, 1) := by decide +kernel
theorem dX9_init_61 : decode cX9_init 61 = .ok (.new 30, 3) := by decide +kernel
theorem dX9_init_64 : decode cX9_init 64 = .ok (.dup, 1) := by decide +kernel
theorem dX9_init_65 : decode cX9_init 65 = .ok (.invokespecial 32, 3) := by decide +kernel
theorem dX9_init_68 : decode cX9_init 68 = .ok (.putfield 33, 3) := by decide +kernel
theorem dX9_init_71 : decode cX9_init 71 = .ok (.aload_n 0, 1) := by decide +kernel
theorem dX9_init_72 : decode cX9_init 72 = .ok (.new 37, 3) := by decide +kernel
theorem dX9_init_75 : decode cX9_init 75 = .ok (.dup, 1) := by decide +kernel
theorem dX9_init_76 : decode cX9_init 76 = .ok (.invokespecial 39, 3) := by decide +kernel
theorem dX9_init_79 : decode cX9_init 79 = .ok (.putfield 40, 3) := by decide +kernel
theorem dX9_init_82 : decode cX9_init 82 = .ok (.aload_n 0, 1) := by decide +kernel
theorem dX9_init_83 : decode cX9_init 83 = .ok (.new 44, 3) := by decide +kernel
theorem dX9_init_86 : decode cX9_init 86 = .ok (.dup, 1) := by decide +kernel
theorem dX9_init_87 : decode cX9_init 87 = .ok (.invokespecial 46, 3) := by decide +kernel
theorem dX9_init_90 : decode cX9_init 90 = .ok (.putfield 47, 3) := by decide +kernel
theorem dX9_init_93 : decode cX9_init 93 = .ok (.aload_n 0, 1) := by decide +kernel
theorem dX9_init_94 : decode cX9_init 94 = .ok (.new 51, 3) := by decide +kernel
theorem dX9_init_97 : decode cX9_init 97 = .ok (.dup, 1) := by decide +kernel
theorem dX9_init_98 : decode cX9_init 98 = .ok (.invokespecial 53, 3) := by decide +kernel
theorem dX9_init_101 : decode cX9_init 101 = .ok (.putfield 54, 3) := by decide +kernel
theorem dX9_init_104 : decode cX9_init 104 = .ok (.aload_n 0, 1) := by decide +kernel
theorem dX9_init_105 : decode cX9_init 105 = .ok (.new 58, 3) := by decide +kernel
theorem dX9_init_108 : decode cX9_init 108 = .ok (.dup, 1) := by decide +kernel
theorem dX9_init_109 : decode cX9_init 109 = .ok (.invokespecial 60, 3) := by decide +kernel
theorem dX9_init_112 : decode cX9_init 112 = .ok (.putfield 61, 3) := by decide +kernel
theorem dX9_init_115 : decode cX9_init 115 = .ok (.return_, 1) := by decide +kernel
theorem dX9_told_0 : decode cX9_told 0 = .ok (.iload_n 1, 1) := by decide +kernel
theorem dX9_told_1 : decode cX9_told 1 = .ok (.tableswitch 142 0 8 #[51, 59, 67, 75, 83, 91, 114, 122, 134], 51) := by decide +kernel
theorem dX9_told_52 : decode cX9_told 52 = .ok (.aload_n 0, 1) := by decide +kernel
theorem dX9_told_53 : decode cX9_told 53 = .ok (.getfield 10, 3) := by decide +kernel
theorem dX9_told_56 : decode cX9_told 56 = .ok (.getfield 65, 3) := by decide +kernel
theorem dX9_told_59 : decode cX9_told 59 = .ok (.ireturn, 1) := by decide +kernel
theorem dX9_told_60 : decode cX9_told 60 = .ok (.aload_n 0, 1) := by decide +kernel
theorem dX9_told_61 : decode cX9_told 61 = .ok (.getfield 10, 3) := by decide +kernel
theorem dX9_told_64 : decode cX9_told 64 = .ok (.getfield 69, 3) := by decide +kernel
theorem dX9_told_67 : decode cX9_told 67 = .ok (.ireturn, 1) := by decide +kernel
theorem dX9_told_68 : decode cX9_told 68 = .ok (.aload_n 0, 1) := by decide +kernel
theorem dX9_told_69 : decode cX9_told 69 = .ok (.getfield 10, 3) := by decide +kernel
theorem dX9_told_72 : decode cX9_told 72 = .ok (.getfield 72, 3) := by decide +kernel
theorem dX9_told_75 : decode cX9_told 75 = .ok (.ireturn, 1) := by decide +kernel
theorem dX9_told_76 : decode cX9_told 76 = .ok (.aload_n 0, 1) := by decide +kernel
theorem dX9_told_77 : decode cX9_told 77 = .ok (.getfield 10, 3) := by decide +kernel
theorem dX9_told_80 : decode cX9_told 80 = .ok (.invokevirtual 75, 3) := by decide +kernel
theorem dX9_told_83 : decode cX9_told 83 = .ok (.ireturn, 1) := by decide +kernel
theorem dX9_told_84 : decode cX9_told 84 = .ok (.aload_n 0, 1) := by decide +kernel
theorem dX9_told_85 : decode cX9_told 85 = .ok (.getfield 10, 3) := by decide +kernel
theorem dX9_told_88 : decode cX9_told 88 = .ok (.invokevirtual 79, 3) := by decide +kernel
theorem dX9_told_91 : decode cX9_told 91 = .ok (.ireturn, 1) := by decide +kernel
theorem dX9_told_92 : decode cX9_told 92 = .ok (.aload_n 0, 1) := by decide +kernel
theorem dX9_told_93 : decode cX9_told 93 = .ok (.getfield 61, 3) := by decide +kernel
theorem dX9_told_96 : decode cX9_told 96 = .ok (.aload_n 0, 1) := by decide +kernel
theorem dX9_told_97 : decode cX9_told 97 = .ok (.getfield 10, 3) := by decide +kernel
theorem dX9_told_100 : decode cX9_told 100 = .ok (.aload_n 0, 1) := by decide +kernel
theorem dX9_told_101 : decode cX9_told 101 = .ok (.getfield 47, 3) := by decide +kernel
theorem dX9_told_104 : decode cX9_told 104 = .ok (.invokevirtual 82, 3) := by decide +kernel
theorem dX9_told_107 : decode cX9_told 107 = .ok (.aload_n 0, 1) := by decide +kernel
theorem dX9_told_108 : decode cX9_told 108 = .ok (.getfield 61, 3) := by decide +kernel
theorem dX9_told_111 : decode cX9_told 111 = .ok (.getfield 86, 3) := by decide +kernel
theorem dX9_told_114 : decode cX9_told 114 = .ok (.ireturn, 1) := by decide +kernel
theorem dX9_told_115 : decode cX9_told 115 = .ok (.aload_n 0, 1) := by decide +kernel
theorem dX9_told_116 : decode cX9_told 116 = .ok (.getfield 33, 3) := by decide +kernel
theorem dX9_told_119 : decode cX9_told 119 = .ok (.getfield 89, 3) := by decide +kernel
theorem dX9_told_122 : decode cX9_told 122 = .ok (.ireturn, 1) := by decide +kernel
theorem dX9_told_123 : decode cX9_told 123 = .ok (.aload_n 0, 1) := by decide +kernel
theorem dX9_told_124 : decode cX9_told 124 = .ok (.getfield 33, 3) := by decide +kernel
theorem dX9_told_127 : decode cX9_told 127 = .ok (.aload_n 0, 1) := by decide +kernel
theorem dX9_told_128 : decode cX9_told 128 = .ok (.getfield 10, 3) := by decide +kernel
theorem dX9_told_131 : decode cX9_told 131 = .ok (.invokevirtual 90, 3) := by decide +kernel
theorem dX9_told_134 : decode cX9_told 134 = .ok (.ireturn, 1) := by decide +kernel
theorem dX9_told_135 : decode cX9_told 135 = .ok (.aload_n 0, 1) := by decide +kernel
theorem dX9_told_136 : decode cX9_told 136 = .ok (.getfield 19, 3) := by decide +kernel
theorem dX9_told_139 : decode cX9_told 139 = .ok (.getfield 94, 3) := by decide +kernel
theorem dX9_told_142 : decode cX9_told 142 = .ok (.ireturn, 1) := by decide +kernel
theorem dX9_told_143 : decode cX9_told 143 = .ok (.ldc 95, 2) := by decide +kernel
theorem dX9_told_145 : decode cX9_told 145 = .ok (.ireturn, 1) := by decide +kernel
theorem dX9_group_0 : decode cX9_group 0 = .ok (.aload_n 0, 1) := by decide +kernel
theorem dX9_group_1 : decode cX9_group 1 = .ok (.getfield 10, 3) := by decide +kernel
theorem dX9_group_4 : decode cX9_group 4 = .ok (.iload_n 1, 1) := by decide +kernel
theorem dX9_group_5 : decode cX9_group 5 = .ok (.invokevirtual 96, 3) := by decide +kernel
theorem dX9_group_8 : decode cX9_group 8 = .ok (.astore_n 3, 1) := by decide +kernel
theorem dX9_group_9 : decode cX9_group 9 = .ok (.aload_n 3, 1) := by decide +kernel
theorem dX9_group_10 : decode cX9_group 10 = .ok (.ifnonnull 6, 3) := by decide +kernel
theorem dX9_group_13 : decode cX9_group 13 = .ok (.ldc 100, 2) := by decide +kernel
theorem dX9_group_15 : decode cX9_group 15 = .ok (.ireturn, 1) := by decide +kernel
theorem dX9_group_16 : decode cX9_group 16 = .ok (.iload_n 2, 1) := by decide +kernel
theorem dX9_group_17 : decode cX9_group 17 = .ok (.tableswitch 195 0 14 #[75, 80, 85, 90, 95, 100, 106, 112, 118, 123, 128, 133, 138, 147, 171], 75) := by decide +kernel
theorem dX9_group_92 : decode cX9_group 92 = .ok (.aload_n 3, 1) := by decide +kernel
theorem dX9_group_93 : decode cX9_group 93 = .ok (.getfield 101, 3) := by decide +kernel
theorem dX9_group_96 : decode cX9_group 96 = .ok (.ireturn, 1) := by decide +kernel
theorem dX9_group_97 : decode cX9_group 97 = .ok (.aload_n 3, 1) := by decide +kernel
theorem dX9_group_98 : decode cX9_group 98 = .ok (.getfield 106, 3) := by decide +kernel
theorem dX9_group_101 : decode cX9_group 101 = .ok (.ireturn, 1) := by decide +kernel
theorem dX9_group_102 : decode cX9_group 102 = .ok (.aload_n 3, 1) := by decide +kernel
theorem dX9_group_103 : decode cX9_group 103 = .ok (.getfield 109, 3) := by decide +kernel
theorem dX9_group_106 : decode cX9_group 106 = .ok (.ireturn, 1) := by decide +kernel
theorem dX9_group_107 : decode cX9_group 107 = .ok (.aload_n 3, 1) := by decide +kernel
theorem dX9_group_108 : decode cX9_group 108 = .ok (.getfield 112, 3) := by decide +kernel
theorem dX9_group_111 : decode cX9_group 111 = .ok (.ireturn, 1) := by decide +kernel
theorem dX9_group_112 : decode cX9_group 112 = .ok (.aload_n 3, 1) := by decide +kernel
theorem dX9_group_113 : decode cX9_group 113 = .ok (.getfield 115, 3) := by decide +kernel
theorem dX9_group_116 : decode cX9_group 116 = .ok (.ireturn, 1) := by decide +kernel
theorem dX9_group_117 : decode cX9_group 117 = .ok (.aload_n 3, 1) := by decide +kernel
theorem dX9_group_118 : decode cX9_group 118 = .ok (.iconst 0, 1) := by decide +kernel
theorem dX9_group_119 : decode cX9_group 119 = .ok (.invokevirtual 118, 3) := by decide +kernel
theorem dX9_group_122 : decode cX9_group 122 = .ok (.ireturn, 1) := by decide +kernel
theorem dX9_group_123 : decode cX9_group 123 = .ok (.aload_n 3, 1) := by decide +kernel
theorem dX9_group_124 : decode cX9_group 124 = .ok (.iconst 1, 1) := by decide +kernel
theorem dX9_group_125 : decode cX9_group 125 = .ok (.invokevirtual 118, 3) := by decide +kernel
theorem dX9_group_128 : decode cX9_group 128 = .ok (.ireturn, 1) := by decide +kernel
theorem dX9_group_129 : decode cX9_group 129 = .ok (.aload_n 3, 1) := by decide +kernel
theorem dX9_group_130 : decode cX9_group 130 = .ok (.iconst 2, 1) := by decide +kernel
theorem dX9_group_131 : decode cX9_group 131 = .ok (.invokevirtual 118, 3) := by decide +kernel
theorem dX9_group_134 : decode cX9_group 134 = .ok (.ireturn, 1) := by decide +kernel
theorem dX9_group_135 : decode cX9_group 135 = .ok (.aload_n 3, 1) := by decide +kernel
theorem dX9_group_136 : decode cX9_group 136 = .ok (.getfield 122, 3) := by decide +kernel
theorem dX9_group_139 : decode cX9_group 139 = .ok (.ireturn, 1) := by decide +kernel
theorem dX9_group_140 : decode cX9_group 140 = .ok (.aload_n 3, 1) := by decide +kernel
theorem dX9_group_141 : decode cX9_group 141 = .ok (.getfield 125, 3) := by decide +kernel
theorem dX9_group_144 : decode cX9_group 144 = .ok (.ireturn, 1) := by decide +kernel
theorem dX9_group_145 : decode cX9_group 145 = .ok (.aload_n 3, 1) := by decide +kernel
theorem dX9_group_146 : decode cX9_group 146 = .ok (.getfield 128, 3) := by decide +kernel
theorem dX9_group_149 : decode cX9_group 149 = .ok (.ireturn, 1) := by decide +kernel
theorem dX9_group_150 : decode cX9_group 150 = .ok (.aload_n 3, 1) := by decide +kernel
theorem dX9_group_151 : decode cX9_group 151 = .ok (.getfield 131, 3) := by decide +kernel
theorem dX9_group_154 : decode cX9_group 154 = .ok (.ireturn, 1) := by decide +kernel
theorem dX9_group_155 : decode cX9_group 155 = .ok (.aload_n 0, 1) := by decide +kernel
theorem dX9_group_156 : decode cX9_group 156 = .ok (.getfield 10, 3) := by decide +kernel
theorem dX9_group_159 : decode cX9_group 159 = .ok (.iload_n 1, 1) := by decide +kernel
theorem dX9_group_160 : decode cX9_group 160 = .ok (.invokevirtual 134, 3) := by decide +kernel
theorem dX9_group_163 : decode cX9_group 163 = .ok (.ireturn, 1) := by decide +kernel
theorem dX9_group_164 : decode cX9_group 164 = .ok (.aload_n 0, 1) := by decide +kernel
theorem dX9_group_165 : decode cX9_group 165 = .ok (.getfield 61, 3) := by decide +kernel
theorem dX9_group_168 : decode cX9_group 168 = .ok (.aload_n 0, 1) := by decide +kernel
theorem dX9_group_169 : decode cX9_group 169 = .ok (.getfield 10, 3) := by decide +kernel
theorem dX9_group_172 : decode cX9_group 172 = .ok (.aload_n 0, 1) := by decide +kernel
theorem dX9_group_173 : decode cX9_group 173 = .ok (.getfield 47, 3) := by decide +kernel
theorem dX9_group_176 : decode cX9_group 176 = .ok (.invokevirtual 82, 3) := by decide +kernel
theorem dX9_group_179 : decode cX9_group 179 = .ok (.aload_n 0, 1) := by decide +kernel
theorem dX9_group_180 : decode cX9_group 180 = .ok (.getfield 61, 3) := by decide +kernel
theorem dX9_group_183 : decode cX9_group 183 = .ok (.iload_n 1, 1) := by decide +kernel
theorem dX9_group_184 : decode cX9_group 184 = .ok (.invokevirtual 137, 3) := by decide +kernel
theorem dX9_group_187 : decode cX9_group 187 = .ok (.ireturn, 1) := by decide +kernel
theorem dX9_group_188 : decode cX9_group 188 = .ok (.aload_n 0, 1) := by decide +kernel
theorem dX9_group_189 : decode cX9_group 189 = .ok (.getfield 61, 3) := by decide +kernel
theorem dX9_group_192 : decode cX9_group 192 = .ok (.aload_n 0, 1) := by decide +kernel
theorem dX9_group_193 : decode cX9_group 193 = .ok (.getfield 10, 3) := by decide +kernel
theorem dX9_group_196 : decode cX9_group 196 = .ok (.aload_n 0, 1) := by decide +kernel
theorem dX9_group_197 : decode cX9_group 197 = .ok (.getfield 47, 3) := by decide +kernel
theorem dX9_group_200 : decode cX9_group 200 = .ok (.invokevirtual 82, 3) := by decide +kernel
theorem dX9_group_203 : decode cX9_group 203 = .ok (.aload_n 0, 1) := by decide +kernel
theorem dX9_group_204 : decode cX9_group 204 = .ok (.getfield 61, 3) := by decide +kernel
theorem dX9_group_207 : decode cX9_group 207 = .ok (.iload_n 1, 1) := by decide +kernel
theorem dX9_group_208 : decode cX9_group 208 = .ok (.invokevirtual 140, 3) := by decide +kernel
theorem dX9_group_211 : decode cX9_group 211 = .ok (.ireturn, 1) := by decide +kernel
theorem dX9_group_212 : decode cX9_group 212 = .ok (.ldc 95, 2) := by decide +kernel
theorem dX9_group_214 : decode cX9_group 214 = .ok (.ireturn, 1) := by decide +kernel
theorem dX9_line_0 : decode cX9_line 0 = .ok (.aload_n 0, 1) := by decide +kernel
theorem dX9_line_1 : decode cX9_line 1 = .ok (.getfield 10, 3) := by decide +kernel
theorem dX9_line_4 : decode cX9_line 4 = .ok (.iload_n 1, 1) := by decide +kernel
theorem dX9_line_5 : decode cX9_line 5 = .ok (.iload_n 2, 1) := by decide +kernel
theorem dX9_line_6 : decode cX9_line 6 = .ok (.invokevirtual 143, 3) := by decide +kernel
theorem dX9_line_9 : decode cX9_line 9 = .ok (.astore 4, 2) := by decide +kernel
theorem dX9_line_11 : decode cX9_line 11 = .ok (.aload 4, 2) := by decide +kernel
theorem dX9_line_13 : decode cX9_line 13 = .ok (.ifnonnull 6, 3) := by decide +kernel
theorem dX9_line_16 : decode cX9_line 16 = .ok (.ldc 100, 2) := by decide +kernel
theorem dX9_line_18 : decode cX9_line 18 = .ok (.ireturn, 1) := by decide +kernel
theorem dX9_line_19 : decode cX9_line 19 = .ok (.iload_n 3, 1) := by decide +kernel
theorem dX9_line_20 : decode cX9_line 20 = .ok (.tableswitch 52 0 2 #[28, 36, 44], 28) := by decide +kernel
theorem dX9_line_48 : decode cX9_line 48 = .ok (.aload 4, 2) := by decide +kernel
theorem dX9_line_50 : decode cX9_line 50 = .ok (.getfield 147, 3) := by decide +kernel
theorem dX9_line_53 : decode cX9_line 53 = .ok (.iload_n 2, 1) := by decide +kernel
theorem dX9_line_54 : decode cX9_line 54 = .ok (.iaload, 1) := by decide +kernel
theorem dX9_line_55 : decode cX9_line 55 = .ok (.ireturn, 1) := by decide +kernel
theorem dX9_line_56 : decode cX9_line 56 = .ok (.aload 4, 2) := by decide +kernel
theorem dX9_line_58 : decode cX9_line 58 = .ok (.getfield 151, 3) := by decide +kernel
theorem dX9_line_61 : decode cX9_line 61 = .ok (.iload_n 2, 1) := by decide +kernel
theorem dX9_line_62 : decode cX9_line 62 = .ok (.iaload, 1) := by decide +kernel
theorem dX9_line_63 : decode cX9_line 63 = .ok (.ireturn, 1) := by decide +kernel
theorem dX9_line_64 : decode cX9_line 64 = .ok (.aload 4, 2) := by decide +kernel
theorem dX9_line_66 : decode cX9_line 66 = .ok (.getfield 154, 3) := by decide +kernel
theorem dX9_line_69 : decode cX9_line 69 = .ok (.iload_n 2, 1) := by decide +kernel
theorem dX9_line_70 : decode cX9_line 70 = .ok (.iaload, 1) := by decide +kernel
theorem dX9_line_71 : decode cX9_line 71 = .ok (.ireturn, 1) := by decide +kernel
theorem dX9_line_72 : decode cX9_line 72 = .ok (.ldc 95, 2) := by decide +kernel
theorem dX9_line_74 : decode cX9_line 74 = .ok (.ireturn, 1) := by decide +kernel
theorem dX9_build_0 : decode cX9_build 0 = .ok (.iload_n 1, 1) := by decide +kernel
theorem dX9_build_1 : decode cX9_build 1 = .ok (.iconst 1, 1) := by decide +kernel
theorem dX9_build_2 : decode cX9_build 2 = .ok (.iconst 4, 1) := by decide +kernel
theorem dX9_build_3 : decode cX9_build 3 = .ok (.invokestatic 157, 3) := by decide +kernel
theorem dX9_build_6 : decode cX9_build 6 = .ok (.ifCond .ne 6, 3) := by decide +kernel
theorem dX9_build_9 : decode cX9_build 9 = .ok (.ldc 95, 2) := by decide +kernel
theorem dX9_build_11 : decode cX9_build 11 = .ok (.ireturn, 1) := by decide +kernel
theorem dX9_build_12 : decode cX9_build 12 = .ok (.aload_n 0, 1) := by decide +kernel
theorem dX9_build_13 : decode cX9_build 13 = .ok (.getfield 19, 3) := by decide +kernel
theorem dX9_build_16 : decode cX9_build 16 = .ok (.aload_n 0, 1) := by decide +kernel
theorem dX9_build_17 : decode cX9_build 17 = .ok (.getfield 10, 3) := by decide +kernel
theorem dX9_build_20 : decode cX9_build 20 = .ok (.invokevirtual 161, 3) := by decide +kernel
theorem dX9_build_23 : decode cX9_build 23 = .ok (.aload_n 0, 1) := by decide +kernel
theorem dX9_build_24 : decode cX9_build 24 = .ok (.getfield 10, 3) := by decide +kernel
theorem dX9_build_27 : decode cX9_build 27 = .ok (.getfield 65, 3) := by decide +kernel
theorem dX9_build_30 : decode cX9_build 30 = .ok (.istore_n 2, 1) := by decide +kernel
theorem dX9_build_31 : decode cX9_build 31 = .ok (.aload_n 0, 1) := by decide +kernel
theorem dX9_build_32 : decode cX9_build 32 = .ok (.getfield 10, 3) := by decide +kernel
theorem dX9_build_35 : decode cX9_build 35 = .ok (.iload_n 1, 1) := by decide +kernel
theorem dX9_build_36 : decode cX9_build 36 = .ok (.invokevirtual 165, 3) := by decide +kernel
theorem dX9_build_39 : decode cX9_build 39 = .ok (.iload_n 2, 1) := by decide +kernel
theorem dX9_build_40 : decode cX9_build 40 = .ok (.ireturn, 1) := by decide +kernel
theorem dX9_shape_0 : decode cX9_shape 0 = .ok (.aload_n 0, 1) := by decide +kernel
theorem dX9_shape_1 : decode cX9_shape 1 = .ok (.getfield 10, 3) := by decide +kernel
theorem dX9_shape_4 : decode cX9_shape 4 = .ok (.iload_n 1, 1) := by decide +kernel
theorem dX9_shape_5 : decode cX9_shape 5 = .ok (.invokevirtual 96, 3) := by decide +kernel
theorem dX9_shape_8 : decode cX9_shape 8 = .ok (.astore 7, 2) := by decide +kernel
theorem dX9_shape_10 : decode cX9_shape 10 = .ok (.aload 7, 2) := by decide +kernel
theorem dX9_shape_12 : decode cX9_shape 12 = .ok (.ifnull 27, 3) := by decide +kernel
theorem dX9_shape_15 : decode cX9_shape 15 = .ok (.iload 5, 2) := by decide +kernel
theorem dX9_shape_17 : decode cX9_shape 17 = .ok (.iload_n 1, 1) := by decide +kernel
theorem dX9_shape_18 : decode cX9_shape 18 = .ok (.if_icmp .eq 21, 3) := by decide +kernel
theorem dX9_shape_21 : decode cX9_shape 21 = .ok (.iload 5, 2) := by decide +kernel
theorem dX9_shape_23 : decode cX9_shape 23 = .ok (.iconst (-1), 1) := by decide +kernel
theorem dX9_shape_24 : decode cX9_shape 24 = .ok (.if_icmp .eq 18, 3) := by decide +kernel
theorem dX9_shape_27 : decode cX9_shape 27 = .ok (.aload_n 0, 1) := by decide +kernel
theorem dX9_shape_28 : decode cX9_shape 28 = .ok (.getfield 10, 3) := by decide +kernel
theorem dX9_shape_31 : decode cX9_shape 31 = .ok (.iload 5, 2) := by decide +kernel
theorem dX9_shape_33 : decode cX9_shape 33 = .ok (.invokevirtual 96, 3) := by decide +kernel
theorem dX9_shape_36 : decode cX9_shape 36 = .ok (.ifnonnull 6, 3) := by decide +kernel
theorem dX9_shape_39 : decode cX9_shape 39 = .ok (.ldc 100, 2) := by decide +kernel
theorem dX9_shape_41 : decode cX9_shape 41 = .ok (.ireturn, 1) := by decide +kernel
theorem dX9_shape_42 : decode cX9_shape 42 = .ok (.iload_n 2, 1) := by decide +kernel
theorem dX9_shape_43 : decode cX9_shape 43 = .ok (.iconst 1, 1) := by decide +kernel
theorem dX9_shape_44 : decode cX9_shape 44 = .ok (.bipush 6, 2) := by decide +kernel
theorem dX9_shape_46 : decode cX9_shape 46 = .ok (.invokestatic 157, 3) := by decide +kernel
theorem dX9_shape_49 : decode cX9_shape 49 = .ok (.ifCond .eq 33, 3) := by decide +kernel
theorem dX9_shape_52 : decode cX9_shape 52 = .ok (.iload_n 3, 1) := by decide +kernel
theorem dX9_shape_53 : decode cX9_shape 53 = .ok (.iconst 0, 1) := by decide +kernel
theorem dX9_shape_54 : decode cX9_shape 54 = .ok (.bipush 6, 2) := by decide +kernel
theorem dX9_shape_56 : decode cX9_shape 56 = .ok (.invokestatic 157, 3) := by decide +kernel
theorem dX9_shape_59 : decode cX9_shape 59 = .ok (.ifCond .eq 23, 3) := by decide +kernel
theorem dX9_shape_62 : decode cX9_shape 62 = .ok (.iload 4, 2) := by decide +kernel
theorem dX9_shape_64 : decode cX9_shape 64 = .ok (.iconst 0, 1) := by decide +kernel
theorem dX9_shape_65 : decode cX9_shape 65 = .ok (.iload_n 2, 1) := by decide +kernel
theorem dX9_shape_66 : decode cX9_shape 66 = .ok (.invokestatic 157, 3) := by decide +kernel
theorem dX9_shape_69 : decode cX9_shape 69 = .ok (.ifCond .eq 13, 3) := by decide +kernel
theorem dX9_shape_72 : decode cX9_shape 72 = .ok (.iload 6, 2) := by decide +kernel
theorem dX9_shape_74 : decode cX9_shape 74 = .ok (.iconst 0, 1) := by decide +kernel
theorem dX9_shape_75 : decode cX9_shape 75 = .ok (.iconst 3, 1) := by decide +kernel
theorem dX9_shape_76 : decode cX9_shape 76 = .ok (.invokestatic 157, 3) := by decide +kernel
theorem dX9_shape_79 : decode cX9_shape 79 = .ok (.ifCond .ne 6, 3) := by decide +kernel
theorem dX9_shape_82 : decode cX9_shape 82 = .ok (.ldc 95, 2) := by decide +kernel
theorem dX9_shape_84 : decode cX9_shape 84 = .ok (.ireturn, 1) := by decide +kernel
theorem dX9_shape_85 : decode cX9_shape 85 = .ok (.aload_n 0, 1) := by decide +kernel
theorem dX9_shape_86 : decode cX9_shape 86 = .ok (.getfield 19, 3) := by decide +kernel
theorem dX9_shape_89 : decode cX9_shape 89 = .ok (.aload_n 0, 1) := by decide +kernel
theorem dX9_shape_90 : decode cX9_shape 90 = .ok (.getfield 10, 3) := by decide +kernel
theorem dX9_shape_93 : decode cX9_shape 93 = .ok (.invokevirtual 161, 3) := by decide +kernel
theorem dX9_shape_96 : decode cX9_shape 96 = .ok (.aload 7, 2) := by decide +kernel
theorem dX9_shape_98 : decode cX9_shape 98 = .ok (.iconst 1, 1) := by decide +kernel
theorem dX9_shape_99 : decode cX9_shape 99 = .ok (.invokevirtual 169, 3) := by decide +kernel
theorem dX9_shape_102 : decode cX9_shape 102 = .ok (.istore 8, 2) := by decide +kernel
theorem dX9_shape_104 : decode cX9_shape 104 = .ok (.aload 7, 2) := by decide +kernel
theorem dX9_shape_106 : decode cX9_shape 106 = .ok (.iload_n 2, 1) := by decide +kernel
theorem dX9_shape_107 : decode cX9_shape 107 = .ok (.putfield 101, 3) := by decide +kernel
theorem dX9_shape_110 : decode cX9_shape 110 = .ok (.aload 7, 2) := by decide +kernel
theorem dX9_shape_112 : decode cX9_shape 112 = .ok (.iload_n 3, 1) := by decide +kernel
theorem dX9_shape_113 : decode cX9_shape 113 = .ok (.putfield 106, 3) := by decide +kernel
theorem dX9_shape_116 : decode cX9_shape 116 = .ok (.aload 7, 2) := by decide +kernel
theorem dX9_shape_118 : decode cX9_shape 118 = .ok (.iload 4, 2) := by decide +kernel
theorem dX9_shape_120 : decode cX9_shape 120 = .ok (.putfield 109, 3) := by decide +kernel
theorem dX9_shape_123 : decode cX9_shape 123 = .ok (.aload 7, 2) := by decide +kernel
theorem dX9_shape_125 : decode cX9_shape 125 = .ok (.iload 5, 2) := by decide +kernel
theorem dX9_shape_127 : decode cX9_shape 127 = .ok (.putfield 112, 3) := by decide +kernel
theorem dX9_shape_130 : decode cX9_shape 130 = .ok (.aload 7, 2) := by decide +kernel
theorem dX9_shape_132 : decode cX9_shape 132 = .ok (.iload 6, 2) := by decide +kernel
theorem dX9_shape_134 : decode cX9_shape 134 = .ok (.putfield 115, 3) := by decide +kernel
theorem dX9_shape_137 : decode cX9_shape 137 = .ok (.aload 7, 2) := by decide +kernel
theorem dX9_shape_139 : decode cX9_shape 139 = .ok (.invokevirtual 172, 3) := by decide +kernel
theorem dX9_shape_142 : decode cX9_shape 142 = .ok (.iload 8, 2) := by decide +kernel
theorem dX9_shape_144 : decode cX9_shape 144 = .ok (.ireturn, 1) := by decide +kernel
theorem dX9_call_0 : decode cX9_call 0 = .ok (.aload_n 0, 1) := by decide +kernel
theorem dX9_call_1 : decode cX9_call 1 = .ok (.getfield 10, 3) := by decide +kernel
theorem dX9_call_4 : decode cX9_call 4 = .ok (.iload_n 1, 1) := by decide +kernel
theorem dX9_call_5 : decode cX9_call 5 = .ok (.invokevirtual 96, 3) := by decide +kernel
theorem dX9_call_8 : decode cX9_call 8 = .ok (.ifnonnull 6, 3) := by decide +kernel
theorem dX9_call_11 : decode cX9_call 11 = .ok (.ldc 100, 2) := by decide +kernel
theorem dX9_call_13 : decode cX9_call 13 = .ok (.ireturn, 1) := by decide +kernel
theorem dX9_call_14 : decode cX9_call 14 = .ok (.aload_n 0, 1) := by decide +kernel
theorem dX9_call_15 : decode cX9_call 15 = .ok (.getfield 19, 3) := by decide +kernel
theorem dX9_call_18 : decode cX9_call 18 = .ok (.aload_n 0, 1) := by decide +kernel
theorem dX9_call_19 : decode cX9_call 19 = .ok (.getfield 10, 3) := by decide +kernel
theorem dX9_call_22 : decode cX9_call 22 = .ok (.invokevirtual 161, 3) := by decide +kernel
theorem dX9_call_25 : decode cX9_call 25 = .ok (.aload_n 0, 1) := by decide +kernel
theorem dX9_call_26 : decode cX9_call 26 = .ok (.getfield 10, 3) := by decide +kernel
theorem dX9_call_29 : decode cX9_call 29 = .ok (.iload_n 1, 1) := by decide +kernel
theorem dX9_call_30 : decode cX9_call 30 = .ok (.invokevirtual 175, 3) := by decide +kernel
theorem dX9_call_33 : decode cX9_call 33 = .ok (.ireturn, 1) := by decide +kernel
theorem dX9_end_0 : decode cX9_end 0 = .ok (.aload_n 0, 1) := by decide +kernel
theorem dX9_end_1 : decode cX9_end 1 = .ok (.getfield 10, 3) := by decide +kernel
theorem dX9_end_4 : decode cX9_end 4 = .ok (.iload_n 1, 1) := by decide +kernel
theorem dX9_end_5 : decode cX9_end 5 = .ok (.iload_n 2, 1) := by decide +kernel
theorem dX9_end_6 : decode cX9_end 6 = .ok (.invokevirtual 143, 3) := by decide +kernel
theorem dX9_end_9 : decode cX9_end 9 = .ok (.astore_n 3, 1) := by decide +kernel
theorem dX9_end_10 : decode cX9_end 10 = .ok (.aload_n 3, 1) := by decide +kernel
theorem dX9_end_11 : decode cX9_end 11 = .ok (.ifnonnull 6, 3) := by decide +kernel
theorem dX9_end_14 : decode cX9_end 14 = .ok (.ldc 100, 2) := by decide +kernel
theorem dX9_end_16 : decode cX9_end 16 = .ok (.ireturn, 1) := by decide +kernel
theorem dX9_end_17 : decode cX9_end 17 = .ok (.aload_n 3, 1) := by decide +kernel
theorem dX9_end_18 : decode cX9_end 18 = .ok (.getfield 147, 3) := by decide +kernel
theorem dX9_end_21 : decode cX9_end 21 = .ok (.iload_n 2, 1) := by decide +kernel
theorem dX9_end_22 : decode cX9_end 22 = .ok (.iaload, 1) := by decide +kernel
theorem dX9_end_23 : decode cX9_end 23 = .ok (.iconst 1, 1) := by decide +kernel
theorem dX9_end_24 : decode cX9_end 24 = .ok (.if_icmp .eq 6, 3) := by decide +kernel
theorem dX9_end_27 : decode cX9_end 27 = .ok (.ldc 178, 2) := by decide +kernel
theorem dX9_end_29 : decode cX9_end 29 = .ok (.ireturn, 1) := by decide +kernel
theorem dX9_end_30 : decode cX9_end 30 = .ok (.aload_n 0, 1) := by decide +kernel
theorem dX9_end_31 : decode cX9_end 31 = .ok (.getfield 19, 3) := by decide +kernel
theorem dX9_end_34 : decode cX9_end 34 = .ok (.aload_n 0, 1) := by decide +kernel
theorem dX9_end_35 : decode cX9_end 35 = .ok (.getfield 10, 3) := by decide +kernel
theorem dX9_end_38 : decode cX9_end 38 = .ok (.invokevirtual 161, 3) := by decide +kernel
theorem dX9_end_41 : decode cX9_end 41 = .ok (.aload_n 0, 1) := by decide +kernel
theorem dX9_end_42 : decode cX9_end 42 = .ok (.getfield 10, 3) := by decide +kernel
theorem dX9_end_45 : decode cX9_end 45 = .ok (.aload_n 3, 1) := by decide +kernel
theorem dX9_end_46 : decode cX9_end 46 = .ok (.iload_n 2, 1) := by decide +kernel
theorem dX9_end_47 : decode cX9_end 47 = .ok (.invokevirtual 179, 3) := by decide +kernel
theorem dX9_end_50 : decode cX9_end 50 = .ok (.ireturn, 1) := by decide +kernel
theorem dX9_damage_0 : decode cX9_damage 0 = .ok (.aload_n 0, 1) := by decide +kernel
theorem dX9_damage_1 : decode cX9_damage 1 = .ok (.getfield 10, 3) := by decide +kernel
theorem dX9_damage_4 : decode cX9_damage 4 = .ok (.iload_n 1, 1) := by decide +kernel
theorem dX9_damage_5 : decode cX9_damage 5 = .ok (.iload_n 2, 1) := by decide +kernel
theorem dX9_damage_6 : decode cX9_damage 6 = .ok (.invokevirtual 143, 3) := by decide +kernel
theorem dX9_damage_9 : decode cX9_damage 9 = .ok (.astore_n 3, 1) := by decide +kernel
theorem dX9_damage_10 : decode cX9_damage 10 = .ok (.aload_n 3, 1) := by decide +kernel
theorem dX9_damage_11 : decode cX9_damage 11 = .ok (.ifnonnull 6, 3) := by decide +kernel
theorem dX9_damage_14 : decode cX9_damage 14 = .ok (.ldc 100, 2) := by decide +kernel
theorem dX9_damage_16 : decode cX9_damage 16 = .ok (.ireturn, 1) := by decide +kernel
theorem dX9_damage_17 : decode cX9_damage 17 = .ok (.aload_n 3, 1) := by decide +kernel
theorem dX9_damage_18 : decode cX9_damage 18 = .ok (.getfield 147, 3) := by decide +kernel
theorem dX9_damage_21 : decode cX9_damage 21 = .ok (.iload_n 2, 1) := by decide +kernel
theorem dX9_damage_22 : decode cX9_damage 22 = .ok (.iaload, 1) := by decide +kernel
theorem dX9_damage_23 : decode cX9_damage 23 = .ok (.iconst 2, 1) := by decide +kernel
theorem dX9_damage_24 : decode cX9_damage 24 = .ok (.if_icmp .ne 6, 3) := by decide +kernel
theorem dX9_damage_27 : decode cX9_damage 27 = .ok (.ldc 178, 2) := by decide +kernel
theorem dX9_damage_29 : decode cX9_damage 29 = .ok (.ireturn, 1) := by decide +kernel
theorem dX9_damage_30 : decode cX9_damage 30 = .ok (.aload_n 0, 1) := by decide +kernel
theorem dX9_damage_31 : decode cX9_damage 31 = .ok (.getfield 19, 3) := by decide +kernel
theorem dX9_damage_34 : decode cX9_damage 34 = .ok (.aload_n 0, 1) := by decide +kernel
theorem dX9_damage_35 : decode cX9_damage 35 = .ok (.getfield 10, 3) := by decide +kernel
theorem dX9_damage_38 : decode cX9_damage 38 = .ok (.invokevirtual 161, 3) := by decide +kernel
theorem dX9_damage_41 : decode cX9_damage 41 = .ok (.aload_n 0, 1) := by decide +kernel
theorem dX9_damage_42 : decode cX9_damage 42 = .ok (.getfield 10, 3) := by decide +kernel
theorem dX9_damage_45 : decode cX9_damage 45 = .ok (.aload_n 3, 1) := by decide +kernel
theorem dX9_damage_46 : decode cX9_damage 46 = .ok (.iload_n 2, 1) := by decide +kernel
theorem dX9_damage_47 : decode cX9_damage 47 = .ok (.invokevirtual 183, 3) := by decide +kernel
theorem dX9_damage_50 : decode cX9_damage 50 = .ok (.ireturn, 1) := by decide +kernel
theorem dX9_mend_0 : decode cX9_mend 0 = .ok (.aload_n 0, 1) := by decide +kernel
theorem dX9_mend_1 : decode cX9_mend 1 = .ok (.getfield 10, 3) := by decide +kernel
theorem dX9_mend_4 : decode cX9_mend 4 = .ok (.iload_n 1, 1) := by decide +kernel
theorem dX9_mend_5 : decode cX9_mend 5 = .ok (.iload_n 2, 1) := by decide +kernel
theorem dX9_mend_6 : decode cX9_mend 6 = .ok (.invokevirtual 143, 3) := by decide +kernel
theorem dX9_mend_9 : decode cX9_mend 9 = .ok (.astore_n 3, 1) := by decide +kernel
theorem dX9_mend_10 : decode cX9_mend 10 = .ok (.aload_n 3, 1) := by decide +kernel
theorem dX9_mend_11 : decode cX9_mend 11 = .ok (.ifnonnull 6, 3) := by decide +kernel
theorem dX9_mend_14 : decode cX9_mend 14 = .ok (.ldc 100, 2) := by decide +kernel
theorem dX9_mend_16 : decode cX9_mend 16 = .ok (.ireturn, 1) := by decide +kernel
theorem dX9_mend_17 : decode cX9_mend 17 = .ok (.aload_n 3, 1) := by decide +kernel
theorem dX9_mend_18 : decode cX9_mend 18 = .ok (.getfield 147, 3) := by decide +kernel
theorem dX9_mend_21 : decode cX9_mend 21 = .ok (.iload_n 2, 1) := by decide +kernel
theorem dX9_mend_22 : decode cX9_mend 22 = .ok (.iaload, 1) := by decide +kernel
theorem dX9_mend_23 : decode cX9_mend 23 = .ok (.iconst 2, 1) := by decide +kernel
theorem dX9_mend_24 : decode cX9_mend 24 = .ok (.if_icmp .eq 6, 3) := by decide +kernel
theorem dX9_mend_27 : decode cX9_mend 27 = .ok (.ldc 178, 2) := by decide +kernel
theorem dX9_mend_29 : decode cX9_mend 29 = .ok (.ireturn, 1) := by decide +kernel
theorem dX9_mend_30 : decode cX9_mend 30 = .ok (.aload_n 0, 1) := by decide +kernel
theorem dX9_mend_31 : decode cX9_mend 31 = .ok (.getfield 19, 3) := by decide +kernel
theorem dX9_mend_34 : decode cX9_mend 34 = .ok (.aload_n 0, 1) := by decide +kernel
theorem dX9_mend_35 : decode cX9_mend 35 = .ok (.getfield 10, 3) := by decide +kernel
theorem dX9_mend_38 : decode cX9_mend 38 = .ok (.invokevirtual 161, 3) := by decide +kernel
theorem dX9_mend_41 : decode cX9_mend 41 = .ok (.aload_n 0, 1) := by decide +kernel
theorem dX9_mend_42 : decode cX9_mend 42 = .ok (.getfield 10, 3) := by decide +kernel
theorem dX9_mend_45 : decode cX9_mend 45 = .ok (.aload_n 3, 1) := by decide +kernel
theorem dX9_mend_46 : decode cX9_mend 46 = .ok (.iload_n 2, 1) := by decide +kernel
theorem dX9_mend_47 : decode cX9_mend 47 = .ok (.invokevirtual 186, 3) := by decide +kernel
theorem dX9_mend_50 : decode cX9_mend 50 = .ok (.aload_n 3, 1) := by decide +kernel
theorem dX9_mend_51 : decode cX9_mend 51 = .ok (.iconst 0, 1) := by decide +kernel
theorem dX9_mend_52 : decode cX9_mend 52 = .ok (.invokevirtual 169, 3) := by decide +kernel
theorem dX9_mend_55 : decode cX9_mend 55 = .ok (.ireturn, 1) := by decide +kernel
theorem dX9_drift_0 : decode cX9_drift 0 = .ok (.iload_n 1, 1) := by decide +kernel
theorem dX9_drift_1 : decode cX9_drift 1 = .ok (.iconst 1, 1) := by decide +kernel
theorem dX9_drift_2 : decode cX9_drift 2 = .ok (.bipush 20, 2) := by decide +kernel
theorem dX9_drift_4 : decode cX9_drift 4 = .ok (.invokestatic 157, 3) := by decide +kernel
theorem dX9_drift_7 : decode cX9_drift 7 = .ok (.ifCond .ne 6, 3) := by decide +kernel
theorem dX9_drift_10 : decode cX9_drift 10 = .ok (.ldc 95, 2) := by decide +kernel
theorem dX9_drift_12 : decode cX9_drift 12 = .ok (.ireturn, 1) := by decide +kernel
theorem dX9_drift_13 : decode cX9_drift 13 = .ok (.iconst 0, 1) := by decide +kernel
theorem dX9_drift_14 : decode cX9_drift 14 = .ok (.istore_n 2, 1) := by decide +kernel
theorem dX9_drift_15 : decode cX9_drift 15 = .ok (.iload_n 2, 1) := by decide +kernel
theorem dX9_drift_16 : decode cX9_drift 16 = .ok (.iload_n 1, 1) := by decide +kernel
theorem dX9_drift_17 : decode cX9_drift 17 = .ok (.if_icmp .ge 31, 3) := by decide +kernel
theorem dX9_drift_20 : decode cX9_drift 20 = .ok (.aload_n 0, 1) := by decide +kernel
theorem dX9_drift_21 : decode cX9_drift 21 = .ok (.getfield 19, 3) := by decide +kernel
theorem dX9_drift_24 : decode cX9_drift 24 = .ok (.aload_n 0, 1) := by decide +kernel
theorem dX9_drift_25 : decode cX9_drift 25 = .ok (.getfield 10, 3) := by decide +kernel
theorem dX9_drift_28 : decode cX9_drift 28 = .ok (.invokevirtual 161, 3) := by decide +kernel
theorem dX9_drift_31 : decode cX9_drift 31 = .ok (.aload_n 0, 1) := by decide +kernel
theorem dX9_drift_32 : decode cX9_drift 32 = .ok (.getfield 40, 3) := by decide +kernel
theorem dX9_drift_35 : decode cX9_drift 35 = .ok (.aload_n 0, 1) := by decide +kernel
theorem dX9_drift_36 : decode cX9_drift 36 = .ok (.getfield 10, 3) := by decide +kernel
theorem dX9_drift_39 : decode cX9_drift 39 = .ok (.invokevirtual 190, 3) := by decide +kernel
theorem dX9_drift_42 : decode cX9_drift 42 = .ok (.iinc 2 1, 3) := by decide +kernel
theorem dX9_drift_45 : decode cX9_drift 45 = .ok (.goto (-30), 3) := by decide +kernel
theorem dX9_drift_48 : decode cX9_drift 48 = .ok (.aload_n 0, 1) := by decide +kernel
theorem dX9_drift_49 : decode cX9_drift 49 = .ok (.getfield 10, 3) := by decide +kernel
theorem dX9_drift_52 : decode cX9_drift 52 = .ok (.invokevirtual 75, 3) := by decide +kernel
theorem dX9_drift_55 : decode cX9_drift 55 = .ok (.ireturn, 1) := by decide +kernel
theorem dX9_undo_0 : decode cX9_undo 0 = .ok (.iload_n 1, 1) := by decide +kernel
theorem dX9_undo_1 : decode cX9_undo 1 = .ok (.iconst 1, 1) := by decide +kernel
theorem dX9_undo_2 : decode cX9_undo 2 = .ok (.bipush 20, 2) := by decide +kernel
theorem dX9_undo_4 : decode cX9_undo 4 = .ok (.invokestatic 157, 3) := by decide +kernel
theorem dX9_undo_7 : decode cX9_undo 7 = .ok (.ifCond .ne 6, 3) := by decide +kernel
theorem dX9_undo_10 : decode cX9_undo 10 = .ok (.ldc 95, 2) := by decide +kernel
theorem dX9_undo_12 : decode cX9_undo 12 = .ok (.ireturn, 1) := by decide +kernel
theorem dX9_undo_13 : decode cX9_undo 13 = .ok (.iload_n 1, 1) := by decide +kernel
theorem dX9_undo_14 : decode cX9_undo 14 = .ok (.aload_n 0, 1) := by decide +kernel
theorem dX9_undo_15 : decode cX9_undo 15 = .ok (.getfield 19, 3) := by decide +kernel
theorem dX9_undo_18 : decode cX9_undo 18 = .ok (.getfield 94, 3) := by decide +kernel
theorem dX9_undo_21 : decode cX9_undo 21 = .ok (.if_icmp .le 6, 3) := by decide +kernel
theorem dX9_undo_24 : decode cX9_undo 24 = .ok (.ldc 178, 2) := by decide +kernel
theorem dX9_undo_26 : decode cX9_undo 26 = .ok (.ireturn, 1) := by decide +kernel
theorem dX9_undo_27 : decode cX9_undo 27 = .ok (.aload_n 0, 1) := by decide +kernel
theorem dX9_undo_28 : decode cX9_undo 28 = .ok (.getfield 19, 3) := by decide +kernel
theorem dX9_undo_31 : decode cX9_undo 31 = .ok (.iload_n 1, 1) := by decide +kernel
theorem dX9_undo_32 : decode cX9_undo 32 = .ok (.aload_n 0, 1) := by decide +kernel
theorem dX9_undo_33 : decode cX9_undo 33 = .ok (.getfield 10, 3) := by decide +kernel
theorem dX9_undo_36 : decode cX9_undo 36 = .ok (.invokevirtual 193, 3) := by decide +kernel
theorem dX9_undo_39 : decode cX9_undo 39 = .ok (.aload_n 0, 1) := by decide +kernel
theorem dX9_undo_40 : decode cX9_undo 40 = .ok (.getfield 10, 3) := by decide +kernel
theorem dX9_undo_43 : decode cX9_undo 43 = .ok (.getfield 69, 3) := by decide +kernel
theorem dX9_undo_46 : decode cX9_undo 46 = .ok (.ireturn, 1) := by decide +kernel
theorem dX9_run_0 : decode cX9_run 0 = .ok (.aload_n 0, 1) := by decide +kernel
theorem dX9_run_1 : decode cX9_run 1 = .ok (.getfield 10, 3) := by decide +kernel
theorem dX9_run_4 : decode cX9_run 4 = .ok (.iload_n 1, 1) := by decide +kernel
theorem dX9_run_5 : decode cX9_run 5 = .ok (.invokevirtual 96, 3) := by decide +kernel
theorem dX9_run_8 : decode cX9_run 8 = .ok (.astore 4, 2) := by decide +kernel
theorem dX9_run_10 : decode cX9_run 10 = .ok (.aload 4, 2) := by decide +kernel
theorem dX9_run_12 : decode cX9_run 12 = .ok (.ifnonnull 7, 3) := by decide +kernel
theorem dX9_run_15 : decode cX9_run 15 = .ok (.ldc2_w 197, 3) := by decide +kernel
theorem dX9_run_18 : decode cX9_run 18 = .ok (.lreturn, 1) := by decide +kernel
theorem dX9_run_19 : decode cX9_run 19 = .ok (.iload_n 2, 1) := by decide +kernel
theorem dX9_run_20 : decode cX9_run 20 = .ok (.iconst 0, 1) := by decide +kernel
theorem dX9_run_21 : decode cX9_run 21 = .ok (.bipush 6, 2) := by decide +kernel
theorem dX9_run_23 : decode cX9_run 23 = .ok (.invokestatic 157, 3) := by decide +kernel
theorem dX9_run_26 : decode cX9_run 26 = .ok (.ifCond .eq 12, 3) := by decide +kernel
theorem dX9_run_29 : decode cX9_run 29 = .ok (.iload_n 3, 1) := by decide +kernel
theorem dX9_run_30 : decode cX9_run 30 = .ok (.iconst 0, 1) := by decide +kernel
theorem dX9_run_31 : decode cX9_run 31 = .ok (.iconst 5, 1) := by decide +kernel
theorem dX9_run_32 : decode cX9_run 32 = .ok (.invokestatic 157, 3) := by decide +kernel
theorem dX9_run_35 : decode cX9_run 35 = .ok (.ifCond .ne 7, 3) := by decide +kernel
theorem dX9_run_38 : decode cX9_run 38 = .ok (.ldc2_w 199, 3) := by decide +kernel
theorem dX9_run_41 : decode cX9_run 41 = .ok (.lreturn, 1) := by decide +kernel
theorem dX9_run_42 : decode cX9_run 42 = .ok (.aload_n 0, 1) := by decide +kernel
theorem dX9_run_43 : decode cX9_run 43 = .ok (.getfield 47, 3) := by decide +kernel
theorem dX9_run_46 : decode cX9_run 46 = .ok (.aload 4, 2) := by decide +kernel
theorem dX9_run_48 : decode cX9_run 48 = .ok (.getfield 101, 3) := by decide +kernel
theorem dX9_run_51 : decode cX9_run 51 = .ok (.aload 4, 2) := by decide +kernel
theorem dX9_run_53 : decode cX9_run 53 = .ok (.getfield 106, 3) := by decide +kernel
theorem dX9_run_56 : decode cX9_run 56 = .ok (.aload 4, 2) := by decide +kernel
theorem dX9_run_58 : decode cX9_run 58 = .ok (.getfield 109, 3) := by decide +kernel
theorem dX9_run_61 : decode cX9_run 61 = .ok (.iload_n 2, 1) := by decide +kernel
theorem dX9_run_62 : decode cX9_run 62 = .ok (.invokevirtual 201, 3) := by decide +kernel
theorem dX9_run_65 : decode cX9_run 65 = .ok (.iload_n 3, 1) := by decide +kernel
theorem dX9_run_66 : decode cX9_run 66 = .ok (.iconst 2, 1) := by decide +kernel
theorem dX9_run_67 : decode cX9_run 67 = .ok (.if_icmp .ge 27, 3) := by decide +kernel
theorem dX9_run_70 : decode cX9_run 70 = .ok (.aload_n 0, 1) := by decide +kernel
theorem dX9_run_71 : decode cX9_run 71 = .ok (.getfield 54, 3) := by decide +kernel
theorem dX9_run_74 : decode cX9_run 74 = .ok (.aload_n 0, 1) := by decide +kernel
theorem dX9_run_75 : decode cX9_run 75 = .ok (.getfield 47, 3) := by decide +kernel
theorem dX9_run_78 : decode cX9_run 78 = .ok (.invokevirtual 205, 3) := by decide +kernel
theorem dX9_run_81 : decode cX9_run 81 = .ok (.aload_n 0, 1) := by decide +kernel
theorem dX9_run_82 : decode cX9_run 82 = .ok (.getfield 47, 3) := by decide +kernel
theorem dX9_run_85 : decode cX9_run 85 = .ok (.invokevirtual 209, 3) := by decide +kernel
theorem dX9_run_88 : decode cX9_run 88 = .ok (.invokevirtual 212, 3) := by decide +kernel
theorem dX9_run_91 : decode cX9_run 91 = .ok (.goto 53, 3) := by decide +kernel
theorem dX9_run_94 : decode cX9_run 94 = .ok (.iload_n 3, 1) := by decide +kernel
theorem dX9_run_95 : decode cX9_run 95 = .ok (.iconst 4, 1) := by decide +kernel
theorem dX9_run_96 : decode cX9_run 96 = .ok (.if_icmp .ge 27, 3) := by decide +kernel
theorem dX9_run_99 : decode cX9_run 99 = .ok (.aload_n 0, 1) := by decide +kernel
theorem dX9_run_100 : decode cX9_run 100 = .ok (.getfield 54, 3) := by decide +kernel
theorem dX9_run_103 : decode cX9_run 103 = .ok (.aload_n 0, 1) := by decide +kernel
theorem dX9_run_104 : decode cX9_run 104 = .ok (.getfield 47, 3) := by decide +kernel
theorem dX9_run_107 : decode cX9_run 107 = .ok (.invokevirtual 216, 3) := by decide +kernel
theorem dX9_run_110 : decode cX9_run 110 = .ok (.aload_n 0, 1) := by decide +kernel
theorem dX9_run_111 : decode cX9_run 111 = .ok (.getfield 47, 3) := by decide +kernel
theorem dX9_run_114 : decode cX9_run 114 = .ok (.invokevirtual 209, 3) := by decide +kernel
theorem dX9_run_117 : decode cX9_run 117 = .ok (.invokevirtual 212, 3) := by decide +kernel
theorem dX9_run_120 : decode cX9_run 120 = .ok (.goto 24, 3) := by decide +kernel
theorem dX9_run_123 : decode cX9_run 123 = .ok (.aload_n 0, 1) := by decide +kernel
theorem dX9_run_124 : decode cX9_run 124 = .ok (.getfield 54, 3) := by decide +kernel
theorem dX9_run_127 : decode cX9_run 127 = .ok (.aload_n 0, 1) := by decide +kernel
theorem dX9_run_128 : decode cX9_run 128 = .ok (.getfield 47, 3) := by decide +kernel
theorem dX9_run_131 : decode cX9_run 131 = .ok (.invokevirtual 219, 3) := by decide +kernel
theorem dX9_run_134 : decode cX9_run 134 = .ok (.aload_n 0, 1) := by decide +kernel
theorem dX9_run_135 : decode cX9_run 135 = .ok (.getfield 47, 3) := by decide +kernel
theorem dX9_run_138 : decode cX9_run 138 = .ok (.invokevirtual 209, 3) := by decide +kernel
theorem dX9_run_141 : decode cX9_run 141 = .ok (.invokevirtual 212, 3) := by decide +kernel
theorem dX9_run_144 : decode cX9_run 144 = .ok (.aload_n 0, 1) := by decide +kernel
theorem dX9_run_145 : decode cX9_run 145 = .ok (.getfield 54, 3) := by decide +kernel
theorem dX9_run_148 : decode cX9_run 148 = .ok (.iload_n 3, 1) := by decide +kernel
theorem dX9_run_149 : decode cX9_run 149 = .ok (.iconst 2, 1) := by decide +kernel
theorem dX9_run_150 : decode cX9_run 150 = .ok (.irem, 1) := by decide +kernel
theorem dX9_run_151 : decode cX9_run 151 = .ok (.invokevirtual 222, 3) := by decide +kernel
theorem dX9_run_154 : decode cX9_run 154 = .ok (.lreturn, 1) := by decide +kernel
theorem dX9_over_0 : decode cX9_over 0 = .ok (.aload_n 0, 1) := by decide +kernel
theorem dX9_over_1 : decode cX9_over 1 = .ok (.getfield 10, 3) := by decide +kernel
theorem dX9_over_4 : decode cX9_over 4 = .ok (.iload_n 1, 1) := by decide +kernel
theorem dX9_over_5 : decode cX9_over 5 = .ok (.invokevirtual 96, 3) := by decide +kernel
theorem dX9_over_8 : decode cX9_over 8 = .ok (.astore_n 3, 1) := by decide +kernel
theorem dX9_over_9 : decode cX9_over 9 = .ok (.aload_n 3, 1) := by decide +kernel
theorem dX9_over_10 : decode cX9_over 10 = .ok (.ifnonnull 7, 3) := by decide +kernel
theorem dX9_over_13 : decode cX9_over 13 = .ok (.ldc2_w 197, 3) := by decide +kernel
theorem dX9_over_16 : decode cX9_over 16 = .ok (.lreturn, 1) := by decide +kernel
theorem dX9_over_17 : decode cX9_over 17 = .ok (.iload_n 2, 1) := by decide +kernel
theorem dX9_over_18 : decode cX9_over 18 = .ok (.iconst 0, 1) := by decide +kernel
theorem dX9_over_19 : decode cX9_over 19 = .ok (.iconst 3, 1) := by decide +kernel
theorem dX9_over_20 : decode cX9_over 20 = .ok (.invokestatic 157, 3) := by decide +kernel
theorem dX9_over_23 : decode cX9_over 23 = .ok (.ifCond .ne 7, 3) := by decide +kernel
theorem dX9_over_26 : decode cX9_over 26 = .ok (.ldc2_w 199, 3) := by decide +kernel
theorem dX9_over_29 : decode cX9_over 29 = .ok (.lreturn, 1) := by decide +kernel
theorem dX9_over_30 : decode cX9_over 30 = .ok (.aload_n 0, 1) := by decide +kernel
theorem dX9_over_31 : decode cX9_over 31 = .ok (.getfield 47, 3) := by decide +kernel
theorem dX9_over_34 : decode cX9_over 34 = .ok (.aload_n 3, 1) := by decide +kernel
theorem dX9_over_35 : decode cX9_over 35 = .ok (.getfield 101, 3) := by decide +kernel
theorem dX9_over_38 : decode cX9_over 38 = .ok (.aload_n 3, 1) := by decide +kernel
theorem dX9_over_39 : decode cX9_over 39 = .ok (.getfield 106, 3) := by decide +kernel
theorem dX9_over_42 : decode cX9_over 42 = .ok (.iconst 0, 1) := by decide +kernel
theorem dX9_over_43 : decode cX9_over 43 = .ok (.iconst 0, 1) := by decide +kernel
theorem dX9_over_44 : decode cX9_over 44 = .ok (.invokevirtual 201, 3) := by decide +kernel
theorem dX9_over_47 : decode cX9_over 47 = .ok (.aload_n 0, 1) := by decide +kernel
theorem dX9_over_48 : decode cX9_over 48 = .ok (.getfield 54, 3) := by decide +kernel
theorem dX9_over_51 : decode cX9_over 51 = .ok (.aload_n 3, 1) := by decide +kernel
theorem dX9_over_52 : decode cX9_over 52 = .ok (.getfield 106, 3) := by decide +kernel
theorem dX9_over_55 : decode cX9_over 55 = .ok (.i2l, 1) := by decide +kernel
theorem dX9_over_56 : decode cX9_over 56 = .ok (.aload_n 0, 1) := by decide +kernel
theorem dX9_over_57 : decode cX9_over 57 = .ok (.getfield 47, 3) := by decide +kernel
theorem dX9_over_60 : decode cX9_over 60 = .ok (.invokevirtual 205, 3) := by decide +kernel
theorem dX9_over_63 : decode cX9_over 63 = .ok (.lmul, 1) := by decide +kernel
theorem dX9_over_64 : decode cX9_over 64 = .ok (.aload_n 0, 1) := by decide +kernel
theorem dX9_over_65 : decode cX9_over 65 = .ok (.getfield 47, 3) := by decide +kernel
theorem dX9_over_68 : decode cX9_over 68 = .ok (.invokevirtual 209, 3) := by decide +kernel
theorem dX9_over_71 : decode cX9_over 71 = .ok (.invokevirtual 212, 3) := by decide +kernel
theorem dX9_over_74 : decode cX9_over 74 = .ok (.iload_n 2, 1) := by decide +kernel
theorem dX9_over_75 : decode cX9_over 75 = .ok (.iconst 2, 1) := by decide +kernel
theorem dX9_over_76 : decode cX9_over 76 = .ok (.if_icmp .lt 18, 3) := by decide +kernel
theorem dX9_over_79 : decode cX9_over 79 = .ok (.aload_n 0, 1) := by decide +kernel
theorem dX9_over_80 : decode cX9_over 80 = .ok (.getfield 54, 3) := by decide +kernel
theorem dX9_over_83 : decode cX9_over 83 = .ok (.aload_n 3, 1) := by decide +kernel
theorem dX9_over_84 : decode cX9_over 84 = .ok (.getfield 101, 3) := by decide +kernel
theorem dX9_over_87 : decode cX9_over 87 = .ok (.aload_n 3, 1) := by decide +kernel
theorem dX9_over_88 : decode cX9_over 88 = .ok (.getfield 106, 3) := by decide +kernel
theorem dX9_over_91 : decode cX9_over 91 = .ok (.invokevirtual 226, 3) := by decide +kernel
theorem dX9_over_94 : decode cX9_over 94 = .ok (.aload_n 0, 1) := by decide +kernel
theorem dX9_over_95 : decode cX9_over 95 = .ok (.getfield 54, 3) := by decide +kernel
theorem dX9_over_98 : decode cX9_over 98 = .ok (.iload_n 2, 1) := by decide +kernel
theorem dX9_over_99 : decode cX9_over 99 = .ok (.iconst 2, 1) := by decide +kernel
theorem dX9_over_100 : decode cX9_over 100 = .ok (.irem, 1) := by decide +kernel
theorem dX9_over_101 : decode cX9_over 101 = .ok (.invokevirtual 222, 3) := by decide +kernel
theorem dX9_over_104 : decode cX9_over 104 = .ok (.lreturn, 1) := by decide +kernel
theorem dX9_linesFor_0 : decode cX9_linesFor 0 = .ok (.aload_n 0, 1) := by decide +kernel
theorem dX9_linesFor_1 : decode cX9_linesFor 1 = .ok (.getfield 10, 3) := by decide +kernel
theorem dX9_linesFor_4 : decode cX9_linesFor 4 = .ok (.iload_n 1, 1) := by decide +kernel
theorem dX9_linesFor_5 : decode cX9_linesFor 5 = .ok (.invokevirtual 96, 3) := by decide +kernel
theorem dX9_linesFor_8 : decode cX9_linesFor 8 = .ok (.astore 4, 2) := by decide +kernel
theorem dX9_linesFor_10 : decode cX9_linesFor 10 = .ok (.aload 4, 2) := by decide +kernel
theorem dX9_linesFor_12 : decode cX9_linesFor 12 = .ok (.ifnonnull 6, 3) := by decide +kernel
theorem dX9_linesFor_15 : decode cX9_linesFor 15 = .ok (.ldc 100, 2) := by decide +kernel
theorem dX9_linesFor_17 : decode cX9_linesFor 17 = .ok (.ireturn, 1) := by decide +kernel
theorem dX9_linesFor_18 : decode cX9_linesFor 18 = .ok (.iload_n 2, 1) := by decide +kernel
theorem dX9_linesFor_19 : decode cX9_linesFor 19 = .ok (.iconst 0, 1) := by decide +kernel
theorem dX9_linesFor_20 : decode cX9_linesFor 20 = .ok (.bipush 6, 2) := by decide +kernel
theorem dX9_linesFor_22 : decode cX9_linesFor 22 = .ok (.invokestatic 157, 3) := by decide +kernel
theorem dX9_linesFor_25 : decode cX9_linesFor 25 = .ok (.ifCond .eq 14, 3) := by decide +kernel
theorem dX9_linesFor_28 : decode cX9_linesFor 28 = .ok (.iload_n 3, 1) := by decide +kernel
theorem dX9_linesFor_29 : decode cX9_linesFor 29 = .ok (.iconst 1, 1) := by decide +kernel
theorem dX9_linesFor_30 : decode cX9_linesFor 30 = .ok (.sipush 999, 3) := by decide +kernel
theorem dX9_linesFor_33 : decode cX9_linesFor 33 = .ok (.invokestatic 157, 3) := by decide +kernel
theorem dX9_linesFor_36 : decode cX9_linesFor 36 = .ok (.ifCond .ne 6, 3) := by decide +kernel
theorem dX9_linesFor_39 : decode cX9_linesFor 39 = .ok (.ldc 95, 2) := by decide +kernel
theorem dX9_linesFor_41 : decode cX9_linesFor 41 = .ok (.ireturn, 1) := by decide +kernel
theorem dX9_linesFor_42 : decode cX9_linesFor 42 = .ok (.iconst 1, 1) := by decide +kernel
theorem dX9_linesFor_43 : decode cX9_linesFor 43 = .ok (.istore 5, 2) := by decide +kernel
theorem dX9_linesFor_45 : decode cX9_linesFor 45 = .ok (.iload 5, 2) := by decide +kernel
theorem dX9_linesFor_47 : decode cX9_linesFor 47 = .ok (.bipush 6, 2) := by decide +kernel
theorem dX9_linesFor_49 : decode cX9_linesFor 49 = .ok (.if_icmp .gt 39, 3) := by decide +kernel
theorem dX9_linesFor_52 : decode cX9_linesFor 52 = .ok (.aload_n 0, 1) := by decide +kernel
theorem dX9_linesFor_53 : decode cX9_linesFor 53 = .ok (.getfield 47, 3) := by decide +kernel
theorem dX9_linesFor_56 : decode cX9_linesFor 56 = .ok (.iload 5, 2) := by decide +kernel
theorem dX9_linesFor_58 : decode cX9_linesFor 58 = .ok (.aload 4, 2) := by decide +kernel
theorem dX9_linesFor_60 : decode cX9_linesFor 60 = .ok (.getfield 106, 3) := by decide +kernel
theorem dX9_linesFor_63 : decode cX9_linesFor 63 = .ok (.iconst 0, 1) := by decide +kernel
theorem dX9_linesFor_64 : decode cX9_linesFor 64 = .ok (.iload_n 2, 1) := by decide +kernel
theorem dX9_linesFor_65 : decode cX9_linesFor 65 = .ok (.invokevirtual 201, 3) := by decide +kernel
theorem dX9_linesFor_68 : decode cX9_linesFor 68 = .ok (.aload_n 0, 1) := by decide +kernel
theorem dX9_linesFor_69 : decode cX9_linesFor 69 = .ok (.getfield 47, 3) := by decide +kernel
theorem dX9_linesFor_72 : decode cX9_linesFor 72 = .ok (.iload_n 3, 1) := by decide +kernel
theorem dX9_linesFor_73 : decode cX9_linesFor 73 = .ok (.invokevirtual 230, 3) := by decide +kernel
theorem dX9_linesFor_76 : decode cX9_linesFor 76 = .ok (.ifCond .eq 6, 3) := by decide +kernel
theorem dX9_linesFor_79 : decode cX9_linesFor 79 = .ok (.iload 5, 2) := by decide +kernel
theorem dX9_linesFor_81 : decode cX9_linesFor 81 = .ok (.ireturn, 1) := by decide +kernel
theorem dX9_linesFor_82 : decode cX9_linesFor 82 = .ok (.iinc 5 1, 3) := by decide +kernel
theorem dX9_linesFor_85 : decode cX9_linesFor 85 = .ok (.goto (-40), 3) := by decide +kernel
theorem dX9_linesFor_88 : decode cX9_linesFor 88 = .ok (.iconst (-1), 1) := by decide +kernel
theorem dX9_linesFor_89 : decode cX9_linesFor 89 = .ok (.ireturn, 1) := by decide +kernel
theorem dX9_bestReserve_0 : decode cX9_bestReserve 0 = .ok (.aload_n 0, 1) := by decide +kernel
theorem dX9_bestReserve_1 : decode cX9_bestReserve 1 = .ok (.getfield 10, 3) := by decide +kernel
theorem dX9_bestReserve_4 : decode cX9_bestReserve 4 = .ok (.iload_n 1, 1) := by decide +kernel
theorem dX9_bestReserve_5 : decode cX9_bestReserve 5 = .ok (.invokevirtual 96, 3) := by decide +kernel
theorem dX9_bestReserve_8 : decode cX9_bestReserve 8 = .ok (.astore 4, 2) := by decide +kernel
theorem dX9_bestReserve_10 : decode cX9_bestReserve 10 = .ok (.aload 4, 2) := by decide +kernel
theorem dX9_bestReserve_12 : decode cX9_bestReserve 12 = .ok (.ifnonnull 6, 3) := by decide +kernel
theorem dX9_bestReserve_15 : decode cX9_bestReserve 15 = .ok (.ldc 100, 2) := by decide +kernel
theorem dX9_bestReserve_17 : decode cX9_bestReserve 17 = .ok (.ireturn, 1) := by decide +kernel
theorem dX9_bestReserve_18 : decode cX9_bestReserve 18 = .ok (.iload_n 2, 1) := by decide +kernel
theorem dX9_bestReserve_19 : decode cX9_bestReserve 19 = .ok (.iconst 0, 1) := by decide +kernel
theorem dX9_bestReserve_20 : decode cX9_bestReserve 20 = .ok (.bipush 6, 2) := by decide +kernel
theorem dX9_bestReserve_22 : decode cX9_bestReserve 22 = .ok (.invokestatic 157, 3) := by decide +kernel
theorem dX9_bestReserve_25 : decode cX9_bestReserve 25 = .ok (.ifCond .eq 14, 3) := by decide +kernel
theorem dX9_bestReserve_28 : decode cX9_bestReserve 28 = .ok (.iload_n 3, 1) := by decide +kernel
theorem dX9_bestReserve_29 : decode cX9_bestReserve 29 = .ok (.iconst 1, 1) := by decide +kernel
theorem dX9_bestReserve_30 : decode cX9_bestReserve 30 = .ok (.sipush 999, 3) := by decide +kernel
theorem dX9_bestReserve_33 : decode cX9_bestReserve 33 = .ok (.invokestatic 157, 3) := by decide +kernel
theorem dX9_bestReserve_36 : decode cX9_bestReserve 36 = .ok (.ifCond .ne 6, 3) := by decide +kernel
theorem dX9_bestReserve_39 : decode cX9_bestReserve 39 = .ok (.ldc 95, 2) := by decide +kernel
theorem dX9_bestReserve_41 : decode cX9_bestReserve 41 = .ok (.ireturn, 1) := by decide +kernel
theorem dX9_bestReserve_42 : decode cX9_bestReserve 42 = .ok (.iconst 0, 1) := by decide +kernel
theorem dX9_bestReserve_43 : decode cX9_bestReserve 43 = .ok (.istore 5, 2) := by decide +kernel
theorem dX9_bestReserve_45 : decode cX9_bestReserve 45 = .ok (.iload 5, 2) := by decide +kernel
theorem dX9_bestReserve_47 : decode cX9_bestReserve 47 = .ok (.aload 4, 2) := by decide +kernel
theorem dX9_bestReserve_49 : decode cX9_bestReserve 49 = .ok (.getfield 101, 3) := by decide +kernel
theorem dX9_bestReserve_52 : decode cX9_bestReserve 52 = .ok (.if_icmp .gt 43, 3) := by decide +kernel
theorem dX9_bestReserve_55 : decode cX9_bestReserve 55 = .ok (.aload_n 0, 1) := by decide +kernel
theorem dX9_bestReserve_56 : decode cX9_bestReserve 56 = .ok (.getfield 47, 3) := by decide +kernel
theorem dX9_bestReserve_59 : decode cX9_bestReserve 59 = .ok (.aload 4, 2) := by decide +kernel
theorem dX9_bestReserve_61 : decode cX9_bestReserve 61 = .ok (.getfield 101, 3) := by decide +kernel
theorem dX9_bestReserve_64 : decode cX9_bestReserve 64 = .ok (.aload 4, 2) := by decide +kernel
theorem dX9_bestReserve_66 : decode cX9_bestReserve 66 = .ok (.getfield 106, 3) := by decide +kernel
theorem dX9_bestReserve_69 : decode cX9_bestReserve 69 = .ok (.iload 5, 2) := by decide +kernel
theorem dX9_bestReserve_71 : decode cX9_bestReserve 71 = .ok (.iload_n 2, 1) := by decide +kernel
theorem dX9_bestReserve_72 : decode cX9_bestReserve 72 = .ok (.invokevirtual 201, 3) := by decide +kernel
theorem dX9_bestReserve_75 : decode cX9_bestReserve 75 = .ok (.aload_n 0, 1) := by decide +kernel
theorem dX9_bestReserve_76 : decode cX9_bestReserve 76 = .ok (.getfield 47, 3) := by decide +kernel
theorem dX9_bestReserve_79 : decode cX9_bestReserve 79 = .ok (.iload_n 3, 1) := by decide +kernel
theorem dX9_bestReserve_80 : decode cX9_bestReserve 80 = .ok (.invokevirtual 230, 3) := by decide +kernel
theorem dX9_bestReserve_83 : decode cX9_bestReserve 83 = .ok (.ifCond .eq 6, 3) := by decide +kernel
theorem dX9_bestReserve_86 : decode cX9_bestReserve 86 = .ok (.iload 5, 2) := by decide +kernel
theorem dX9_bestReserve_88 : decode cX9_bestReserve 88 = .ok (.ireturn, 1) := by decide +kernel
theorem dX9_bestReserve_89 : decode cX9_bestReserve 89 = .ok (.iinc 5 1, 3) := by decide +kernel
theorem dX9_bestReserve_92 : decode cX9_bestReserve 92 = .ok (.goto (-47), 3) := by decide +kernel
theorem dX9_bestReserve_95 : decode cX9_bestReserve 95 = .ok (.iconst (-1), 1) := by decide +kernel
theorem dX9_bestReserve_96 : decode cX9_bestReserve 96 = .ok (.ireturn, 1) := by decide +kernel
theorem dX9_write_0 : decode cX9_write 0 = .ok (.aload_n 0, 1) := by decide +kernel
theorem dX9_write_1 : decode cX9_write 1 = .ok (.getfield 10, 3) := by decide +kernel
theorem dX9_write_4 : decode cX9_write 4 = .ok (.iload_n 1, 1) := by decide +kernel
theorem dX9_write_5 : decode cX9_write 5 = .ok (.iload_n 2, 1) := by decide +kernel
theorem dX9_write_6 : decode cX9_write 6 = .ok (.invokevirtual 143, 3) := by decide +kernel
theorem dX9_write_9 : decode cX9_write 9 = .ok (.astore 4, 2) := by decide +kernel
theorem dX9_write_11 : decode cX9_write 11 = .ok (.aload 4, 2) := by decide +kernel
theorem dX9_write_13 : decode cX9_write 13 = .ok (.ifnonnull 6, 3) := by decide +kernel
theorem dX9_write_16 : decode cX9_write 16 = .ok (.ldc 100, 2) := by decide +kernel
theorem dX9_write_18 : decode cX9_write 18 = .ok (.ireturn, 1) := by decide +kernel
theorem dX9_write_19 : decode cX9_write 19 = .ok (.iload_n 3, 1) := by decide +kernel
theorem dX9_write_20 : decode cX9_write 20 = .ok (.iconst 0, 1) := by decide +kernel
theorem dX9_write_21 : decode cX9_write 21 = .ok (.iconst 2, 1) := by decide +kernel
theorem dX9_write_22 : decode cX9_write 22 = .ok (.invokestatic 157, 3) := by decide +kernel
theorem dX9_write_25 : decode cX9_write 25 = .ok (.ifCond .ne 6, 3) := by decide +kernel
theorem dX9_write_28 : decode cX9_write 28 = .ok (.ldc 95, 2) := by decide +kernel
theorem dX9_write_30 : decode cX9_write 30 = .ok (.ireturn, 1) := by decide +kernel
theorem dX9_write_31 : decode cX9_write 31 = .ok (.aload_n 0, 1) := by decide +kernel
theorem dX9_write_32 : decode cX9_write 32 = .ok (.getfield 33, 3) := by decide +kernel
theorem dX9_write_35 : decode cX9_write 35 = .ok (.getfield 89, 3) := by decide +kernel
theorem dX9_write_38 : decode cX9_write 38 = .ok (.bipush 20, 2) := by decide +kernel
theorem dX9_write_40 : decode cX9_write 40 = .ok (.if_icmp .lt 6, 3) := by decide +kernel
theorem dX9_write_43 : decode cX9_write 43 = .ok (.ldc 234, 2) := by decide +kernel
theorem dX9_write_45 : decode cX9_write 45 = .ok (.ireturn, 1) := by decide +kernel
theorem dX9_write_46 : decode cX9_write 46 = .ok (.aload_n 0, 1) := by decide +kernel
theorem dX9_write_47 : decode cX9_write 47 = .ok (.getfield 33, 3) := by decide +kernel
theorem dX9_write_50 : decode cX9_write 50 = .ok (.iload_n 1, 1) := by decide +kernel
theorem dX9_write_51 : decode cX9_write 51 = .ok (.iload_n 2, 1) := by decide +kernel
theorem dX9_write_52 : decode cX9_write 52 = .ok (.iload_n 3, 1) := by decide +kernel
theorem dX9_write_53 : decode cX9_write 53 = .ok (.invokevirtual 235, 3) := by decide +kernel
theorem dX9_write_56 : decode cX9_write 56 = .ok (.aload_n 0, 1) := by decide +kernel
theorem dX9_write_57 : decode cX9_write 57 = .ok (.getfield 33, 3) := by decide +kernel
theorem dX9_write_60 : decode cX9_write 60 = .ok (.getfield 89, 3) := by decide +kernel
theorem dX9_write_63 : decode cX9_write 63 = .ok (.ireturn, 1) := by decide +kernel
theorem dX9_tear_0 : decode cX9_tear 0 = .ok (.aload_n 0, 1) := by decide +kernel
theorem dX9_tear_1 : decode cX9_tear 1 = .ok (.getfield 33, 3) := by decide +kernel
theorem dX9_tear_4 : decode cX9_tear 4 = .ok (.getfield 89, 3) := by decide +kernel
theorem dX9_tear_7 : decode cX9_tear 7 = .ok (.istore_n 1, 1) := by decide +kernel
theorem dX9_tear_8 : decode cX9_tear 8 = .ok (.aload_n 0, 1) := by decide +kernel
theorem dX9_tear_9 : decode cX9_tear 9 = .ok (.getfield 33, 3) := by decide +kernel
theorem dX9_tear_12 : decode cX9_tear 12 = .ok (.invokevirtual 239, 3) := by decide +kernel
theorem dX9_tear_15 : decode cX9_tear 15 = .ok (.iload_n 1, 1) := by decide +kernel
theorem dX9_tear_16 : decode cX9_tear 16 = .ok (.ireturn, 1) := by decide +kernel
theorem dX9_seed_0 : decode cX9_seed 0 = .ok (.iload_n 1, 1) := by decide +kernel
theorem dX9_seed_1 : decode cX9_seed 1 = .ok (.ifCond .ge 6, 3) := by decide +kernel
theorem dX9_seed_4 : decode cX9_seed 4 = .ok (.ldc 95, 2) := by decide +kernel
theorem dX9_seed_6 : decode cX9_seed 6 = .ok (.ireturn, 1) := by decide +kernel
theorem dX9_seed_7 : decode cX9_seed 7 = .ok (.aload_n 0, 1) := by decide +kernel
theorem dX9_seed_8 : decode cX9_seed 8 = .ok (.getfield 40, 3) := by decide +kernel
theorem dX9_seed_11 : decode cX9_seed 11 = .ok (.getfield 242, 3) := by decide +kernel
theorem dX9_seed_14 : decode cX9_seed 14 = .ok (.istore_n 2, 1) := by decide +kernel
theorem dX9_seed_15 : decode cX9_seed 15 = .ok (.aload_n 0, 1) := by decide +kernel
theorem dX9_seed_16 : decode cX9_seed 16 = .ok (.getfield 40, 3) := by decide +kernel
theorem dX9_seed_19 : decode cX9_seed 19 = .ok (.iload_n 1, 1) := by decide +kernel
theorem dX9_seed_20 : decode cX9_seed 20 = .ok (.putfield 242, 3) := by decide +kernel
theorem dX9_seed_23 : decode cX9_seed 23 = .ok (.iload_n 2, 1) := by decide +kernel
theorem dX9_seed_24 : decode cX9_seed 24 = .ok (.ireturn, 1) := by decide +kernel
theorem dX9_keep_0 : decode cX9_keep 0 = .ok (.iload_n 1, 1) := by decide +kernel
theorem dX9_keep_1 : decode cX9_keep 1 = .ok (.iconst 0, 1) := by decide +kernel
theorem dX9_keep_2 : decode cX9_keep 2 = .ok (.iconst 1, 1) := by decide +kernel
theorem dX9_keep_3 : decode cX9_keep 3 = .ok (.invokestatic 157, 3) := by decide +kernel
theorem dX9_keep_6 : decode cX9_keep 6 = .ok (.ifCond .ne 6, 3) := by decide +kernel
theorem dX9_keep_9 : decode cX9_keep 9 = .ok (.ldc 100, 2) := by decide +kernel
theorem dX9_keep_11 : decode cX9_keep 11 = .ok (.ireturn, 1) := by decide +kernel
theorem dX9_keep_12 : decode cX9_keep 12 = .ok (.aload_n 0, 1) := by decide +kernel
theorem dX9_keep_13 : decode cX9_keep 13 = .ok (.getfield 25, 3) := by decide +kernel
theorem dX9_keep_16 : decode cX9_keep 16 = .ok (.iload_n 1, 1) := by decide +kernel
theorem dX9_keep_17 : decode cX9_keep 17 = .ok (.aaload, 1) := by decide +kernel
theorem dX9_keep_18 : decode cX9_keep 18 = .ok (.aload_n 0, 1) := by decide +kernel
theorem dX9_keep_19 : decode cX9_keep 19 = .ok (.getfield 10, 3) := by decide +kernel
theorem dX9_keep_22 : decode cX9_keep 22 = .ok (.aload_n 0, 1) := by decide +kernel
theorem dX9_keep_23 : decode cX9_keep 23 = .ok (.getfield 40, 3) := by decide +kernel
theorem dX9_keep_26 : decode cX9_keep 26 = .ok (.invokevirtual 245, 3) := by decide +kernel
theorem dX9_keep_29 : decode cX9_keep 29 = .ok (.aload_n 0, 1) := by decide +kernel
theorem dX9_keep_30 : decode cX9_keep 30 = .ok (.getfield 19, 3) := by decide +kernel
theorem dX9_keep_33 : decode cX9_keep 33 = .ok (.invokevirtual 249, 3) := by decide +kernel
theorem dX9_keep_36 : decode cX9_keep 36 = .ok (.iconst 1, 1) := by decide +kernel
theorem dX9_keep_37 : decode cX9_keep 37 = .ok (.ireturn, 1) := by decide +kernel
theorem dX9_goBack_0 : decode cX9_goBack 0 = .ok (.iload_n 1, 1) := by decide +kernel
theorem dX9_goBack_1 : decode cX9_goBack 1 = .ok (.iconst 0, 1) := by decide +kernel
theorem dX9_goBack_2 : decode cX9_goBack 2 = .ok (.iconst 1, 1) := by decide +kernel
theorem dX9_goBack_3 : decode cX9_goBack 3 = .ok (.invokestatic 157, 3) := by decide +kernel
theorem dX9_goBack_6 : decode cX9_goBack 6 = .ok (.ifCond .ne 6, 3) := by decide +kernel
theorem dX9_goBack_9 : decode cX9_goBack 9 = .ok (.ldc 100, 2) := by decide +kernel
theorem dX9_goBack_11 : decode cX9_goBack 11 = .ok (.ireturn, 1) := by decide +kernel
theorem dX9_goBack_12 : decode cX9_goBack 12 = .ok (.aload_n 0, 1) := by decide +kernel
theorem dX9_goBack_13 : decode cX9_goBack 13 = .ok (.getfield 25, 3) := by decide +kernel
theorem dX9_goBack_16 : decode cX9_goBack 16 = .ok (.iload_n 1, 1) := by decide +kernel
theorem dX9_goBack_17 : decode cX9_goBack 17 = .ok (.aaload, 1) := by decide +kernel
theorem dX9_goBack_18 : decode cX9_goBack 18 = .ok (.getfield 252, 3) := by decide +kernel
theorem dX9_goBack_21 : decode cX9_goBack 21 = .ok (.ifCond .ne 6, 3) := by decide +kernel
theorem dX9_goBack_24 : decode cX9_goBack 24 = .ok (.ldc 178, 2) := by decide +kernel
theorem dX9_goBack_26 : decode cX9_goBack 26 = .ok (.ireturn, 1) := by decide +kernel
theorem dX9_goBack_27 : decode cX9_goBack 27 = .ok (.aload_n 0, 1) := by decide +kernel
theorem dX9_goBack_28 : decode cX9_goBack 28 = .ok (.getfield 25, 3) := by decide +kernel
theorem dX9_goBack_31 : decode cX9_goBack 31 = .ok (.iload_n 1, 1) := by decide +kernel
theorem dX9_goBack_32 : decode cX9_goBack 32 = .ok (.aaload, 1) := by decide +kernel
theorem dX9_goBack_33 : decode cX9_goBack 33 = .ok (.aload_n 0, 1) := by decide +kernel
theorem dX9_goBack_34 : decode cX9_goBack 34 = .ok (.getfield 10, 3) := by decide +kernel
theorem dX9_goBack_37 : decode cX9_goBack 37 = .ok (.aload_n 0, 1) := by decide +kernel
theorem dX9_goBack_38 : decode cX9_goBack 38 = .ok (.getfield 40, 3) := by decide +kernel
theorem dX9_goBack_41 : decode cX9_goBack 41 = .ok (.invokevirtual 256, 3) := by decide +kernel
theorem dX9_goBack_44 : decode cX9_goBack 44 = .ok (.aload_n 0, 1) := by decide +kernel
theorem dX9_goBack_45 : decode cX9_goBack 45 = .ok (.getfield 19, 3) := by decide +kernel
theorem dX9_goBack_48 : decode cX9_goBack 48 = .ok (.invokevirtual 249, 3) := by decide +kernel
theorem dX9_goBack_51 : decode cX9_goBack 51 = .ok (.iconst 1, 1) := by decide +kernel
theorem dX9_goBack_52 : decode cX9_goBack 52 = .ok (.ireturn, 1) := by decide +kernel
theorem dX9_isWithin_0 : decode cX9_isWithin 0 = .ok (.iload_n 0, 1) := by decide +kernel
theorem dX9_isWithin_1 : decode cX9_isWithin 1 = .ok (.iload_n 1, 1) := by decide +kernel
theorem dX9_isWithin_2 : decode cX9_isWithin 2 = .ok (.if_icmp .lt 12, 3) := by decide +kernel
theorem dX9_isWithin_5 : decode cX9_isWithin 5 = .ok (.iload_n 0, 1) := by decide +kernel
theorem dX9_isWithin_6 : decode cX9_isWithin 6 = .ok (.iload_n 2, 1) := by decide +kernel
theorem dX9_isWithin_7 : decode cX9_isWithin 7 = .ok (.if_icmp .gt 7, 3) := by decide +kernel
theorem dX9_isWithin_10 : decode cX9_isWithin 10 = .ok (.iconst 1, 1) := by decide +kernel
theorem dX9_isWithin_11 : decode cX9_isWithin 11 = .ok (.goto 4, 3) := by decide +kernel
theorem dX9_isWithin_14 : decode cX9_isWithin 14 = .ok (.iconst 0, 1) := by decide +kernel
theorem dX9_isWithin_15 : decode cX9_isWithin 15 = .ok (.ireturn, 1) := by decide +kernel
theorem dX10_init_0 : decode cX10_init 0 = .ok (.aload_n 0, 1) := by decide +kernel
theorem dX10_init_1 : decode cX10_init 1 = .ok (.invokespecial 1, 3) := by decide +kernel
theorem dX10_init_4 : decode cX10_init 4 = .ok (.aload_n 0, 1) := by decide +kernel
theorem dX10_init_5 : decode cX10_init 5 = .ok (.sipush 139, 3) := by decide +kernel
theorem dX10_init_8 : decode cX10_init 8 = .ok (.newarray .int, 2) := by decide +kernel
theorem dX10_init_10 : decode cX10_init 10 = .ok (.putfield 7, 3) := by decide +kernel
theorem dX10_init_13 : decode cX10_init 13 = .ok (.aload_n 0, 1) := by decide +kernel
theorem dX10_init_14 : decode cX10_init 14 = .ok (.sipush 2780, 3) := by decide +kernel
theorem dX10_init_17 : decode cX10_init 17 = .ok (.newarray .int, 2) := by decide +kernel
theorem dX10_init_19 : decode cX10_init 19 = .ok (.putfield 13, 3) := by decide +kernel
theorem dX10_init_22 : decode cX10_init 22 = .ok (.aload_n 0, 1) := by decide +kernel
theorem dX10_init_23 : decode cX10_init 23 = .ok (.sipush 278, 3) := by decide +kernel
theorem dX10_init_26 : decode cX10_init 26 = .ok (.newarray .int, 2) := by decide +kernel
theorem dX10_init_28 : decode cX10_init 28 = .ok (.putfield 16, 3) := by decide +kernel
theorem dX10_init_31 : decode cX10_init 31 = .ok (.aload_n 0, 1) := by decide +kernel
theorem dX10_init_32 : decode cX10_init 32 = .ok (.iconst 2, 1) := by decide +kernel
theorem dX10_init_33 : decode cX10_init 33 = .ok (.newarray .long, 2) := by decide +kernel
theorem dX10_init_35 : decode cX10_init 35 = .ok (.putfield 19, 3) := by decide +kernel
theorem dX10_init_38 : decode cX10_init 38 = .ok (.aload_n 0, 1) := by decide +kernel
theorem dX10_init_39 : decode cX10_init 39 = .ok (.iconst 2, 1) := by decide +kernel
theorem dX10_init_40 : decode cX10_init 40 = .ok (.newarray .boolean, 2) := by decide +kernel
theorem dX10_init_42 : decode cX10_init 42 = .ok (.putfield 23, 3) := by decide +kernel
theorem dX10_init_45 : decode cX10_init 45 = .ok (.aload_n 0, 1) := by decide +kernel
theorem dX10_init_46 : decode cX10_init 46 = .ok (.bipush 60, 2) := by decide +kernel
theorem dX10_init_48 : decode cX10_init 48 = .ok (.newarray .int, 2) := by decide +kernel
theorem dX10_init_50 : decode cX10_init 50 = .ok (.putfield 27, 3) := by decide +kernel
theorem dX10_init_53 : decode cX10_init 53 = .ok (.aload_n 0, 1) := by decide +kernel
theorem dX10_init_54 : decode cX10_init 54 = .ok (.bipush 7, 2) := by decide +kernel
theorem dX10_init_56 : decode cX10_init 56 = .ok (.newarray .long, 2) := by decide +kernel
theorem dX10_init_58 : decode cX10_init 58 = .ok (.putfield 30, 3) := by decide +kernel
theorem dX10_init_61 : decode cX10_init 61 = .ok (.aload_n 0, 1) := by decide +kernel
theorem dX10_init_62 : decode cX10_init 62 = .ok (.iconst 4, 1) := by decide +kernel
theorem dX10_init_63 : decode cX10_init 63 = .ok (.newarray .int, 2) := by decide +kernel
theorem dX10_init_65 : decode cX10_init 65 = .ok (.putfield 33, 3) := by decide +kernel
theorem dX10_init_68 : decode cX10_init 68 = .ok (.aload_n 0, 1) := by decide +kernel
theorem dX10_init_69 : decode cX10_init 69 = .ok (.iconst 4, 1) := by decide +kernel
theorem dX10_init_70 : decode cX10_init 70 = .ok (.newarray .int, 2) := by decide +kernel
theorem dX10_init_72 : decode cX10_init 72 = .ok (.putfield 36, 3) := by decide +kernel
theorem dX10_init_75 : decode cX10_init 75 = .ok (.aload_n 0, 1) := by decide +kernel
theorem dX10_init_76 : decode cX10_init 76 = .ok (.iconst 4, 1) := by decide +kernel
theorem dX10_init_77 : decode cX10_init 77 = .ok (.newarray .int, 2) := by decide +kernel
theorem dX10_init_79 : decode cX10_init 79 = .ok (.putfield 39, 3) := by decide +kernel
theorem dX10_init_82 : decode cX10_init 82 = .ok (.aload_n 0, 1) := by decide +kernel
theorem dX10_init_83 : decode cX10_init 83 = .ok (.iconst 2, 1) := by decide +kernel
theorem dX10_init_84 : decode cX10_init 84 = .ok (.invokevirtual 42, 3) := by decide +kernel
theorem dX10_init_87 : decode cX10_init 87 = .ok (.return_, 1) := by decide +kernel
theorem dX10_in_0 : decode cX10_in 0 = .ok (.iload_n 0, 1) := by decide +kernel
theorem dX10_in_1 : decode cX10_in 1 = .ok (.iload_n 1, 1) := by decide +kernel
theorem dX10_in_2 : decode cX10_in 2 = .ok (.if_icmp .lt 12, 3) := by decide +kernel
theorem dX10_in_5 : decode cX10_in 5 = .ok (.iload_n 0, 1) := by decide +kernel
theorem dX10_in_6 : decode cX10_in 6 = .ok (.iload_n 2, 1) := by decide +kernel
theorem dX10_in_7 : decode cX10_in 7 = .ok (.if_icmp .gt 7, 3) := by decide +kernel
theorem dX10_in_10 : decode cX10_in 10 = .ok (.iconst 1, 1) := by decide +kernel
theorem dX10_in_11 : decode cX10_in 11 = .ok (.goto 4, 3) := by decide +kernel
theorem dX10_in_14 : decode cX10_in 14 = .ok (.iconst 0, 1) := by decide +kernel
theorem dX10_in_15 : decode cX10_in 15 = .ok (.ireturn, 1) := by decide +kernel
theorem dX10_isGroup_0 : decode cX10_isGroup 0 = .ok (.iload_n 1, 1) := by decide +kernel
theorem dX10_isGroup_1 : decode cX10_isGroup 1 = .ok (.iconst 0, 1) := by decide +kernel
theorem dX10_isGroup_2 : decode cX10_isGroup 2 = .ok (.aload_n 0, 1) := by decide +kernel
theorem dX10_isGroup_3 : decode cX10_isGroup 3 = .ok (.getfield 7, 3) := by decide +kernel
theorem dX10_isGroup_6 : decode cX10_isGroup 6 = .ok (.iconst 0, 1) := by decide +kernel
theorem dX10_isGroup_7 : decode cX10_isGroup 7 = .ok (.iaload, 1) := by decide +kernel
theorem dX10_isGroup_8 : decode cX10_isGroup 8 = .ok (.iconst 1, 1) := by decide +kernel
theorem dX10_isGroup_9 : decode cX10_isGroup 9 = .ok (.isub, 1) := by decide +kernel
theorem dX10_isGroup_10 : decode cX10_isGroup 10 = .ok (.invokestatic 46, 3) := by decide +kernel
theorem dX10_isGroup_13 : decode cX10_isGroup 13 = .ok (.ireturn, 1) := by decide +kernel
theorem dX10_of_0 : decode cX10_of 0 = .ok (.aload_n 0, 1) := by decide +kernel
theorem dX10_of_1 : decode cX10_of 1 = .ok (.getfield 7, 3) := by decide +kernel
theorem dX10_of_4 : decode cX10_of 4 = .ok (.iconst 3, 1) := by decide +kernel
theorem dX10_of_5 : decode cX10_of 5 = .ok (.bipush 34, 2) := by decide +kernel
theorem dX10_of_7 : decode cX10_of 7 = .ok (.iload_n 1, 1) := by decide +kernel
theorem dX10_of_8 : decode cX10_of 8 = .ok (.imul, 1) := by decide +kernel
theorem dX10_of_9 : decode cX10_of 9 = .ok (.iadd, 1) := by decide +kernel
theorem dX10_of_10 : decode cX10_of 10 = .ok (.iload_n 2, 1) := by decide +kernel
theorem dX10_of_11 : decode cX10_of 11 = .ok (.iadd, 1) := by decide +kernel
theorem dX10_of_12 : decode cX10_of 12 = .ok (.iaload, 1) := by decide +kernel
theorem dX10_of_13 : decode cX10_of 13 = .ok (.ireturn, 1) := by decide +kernel
theorem dX10_put_0 : decode cX10_put 0 = .ok (.aload_n 0, 1) := by decide +kernel
theorem dX10_put_1 : decode cX10_put 1 = .ok (.getfield 7, 3) := by decide +kernel
theorem dX10_put_4 : decode cX10_put 4 = .ok (.iconst 3, 1) := by decide +kernel
theorem dX10_put_5 : decode cX10_put 5 = .ok (.bipush 34, 2) := by decide +kernel
theorem dX10_put_7 : decode cX10_put 7 = .ok (.iload_n 1, 1) := by decide +kernel
theorem dX10_put_8 : decode cX10_put 8 = .ok (.imul, 1) := by decide +kernel
theorem dX10_put_9 : decode cX10_put 9 = .ok (.iadd, 1) := by decide +kernel
theorem dX10_put_10 : decode cX10_put 10 = .ok (.iload_n 2, 1) := by decide +kernel
theorem dX10_put_11 : decode cX10_put 11 = .ok (.iadd, 1) := by decide +kernel
theorem dX10_put_12 : decode cX10_put 12 = .ok (.iload_n 3, 1) := by decide +kernel
theorem dX10_put_13 : decode cX10_put 13 = .ok (.iastore, 1) := by decide +kernel
theorem dX10_put_14 : decode cX10_put 14 = .ok (.return_, 1) := by decide +kernel
theorem dX10_isLine_0 : decode cX10_isLine 0 = .ok (.aload_n 0, 1) := by decide +kernel
theorem dX10_isLine_1 : decode cX10_isLine 1 = .ok (.iload_n 1, 1) := by decide +kernel
theorem dX10_isLine_2 : decode cX10_isLine 2 = .ok (.invokevirtual 50, 3) := by decide +kernel
theorem dX10_isLine_5 : decode cX10_isLine 5 = .ok (.ifCond .eq 23, 3) := by decide +kernel
theorem dX10_isLine_8 : decode cX10_isLine 8 = .ok (.iload_n 2, 1) := by decide +kernel
theorem dX10_isLine_9 : decode cX10_isLine 9 = .ok (.iconst 0, 1) := by decide +kernel
theorem dX10_isLine_10 : decode cX10_isLine 10 = .ok (.aload_n 0, 1) := by decide +kernel
theorem dX10_isLine_11 : decode cX10_isLine 11 = .ok (.iload_n 1, 1) := by decide +kernel
theorem dX10_isLine_12 : decode cX10_isLine 12 = .ok (.iconst 0, 1) := by decide +kernel
theorem dX10_isLine_13 : decode cX10_isLine 13 = .ok (.invokevirtual 54, 3) := by decide +kernel
theorem dX10_isLine_16 : decode cX10_isLine 16 = .ok (.iconst 1, 1) := by decide +kernel
theorem dX10_isLine_17 : decode cX10_isLine 17 = .ok (.isub, 1) := by decide +kernel
theorem dX10_isLine_18 : decode cX10_isLine 18 = .ok (.invokestatic 46, 3) := by decide +kernel
theorem dX10_isLine_21 : decode cX10_isLine 21 = .ok (.ifCond .eq 7, 3) := by decide +kernel
theorem dX10_isLine_24 : decode cX10_isLine 24 = .ok (.iconst 1, 1) := by decide +kernel
theorem dX10_isLine_25 : decode cX10_isLine 25 = .ok (.goto 4, 3) := by decide +kernel
theorem dX10_isLine_28 : decode cX10_isLine 28 = .ok (.iconst 0, 1) := by decide +kernel
theorem dX10_isLine_29 : decode cX10_isLine 29 = .ok (.ireturn, 1) := by decide +kernel
theorem dX10_ofL_0 : decode cX10_ofL 0 = .ok (.aload_n 0, 1) := by decide +kernel
theorem dX10_ofL_1 : decode cX10_ofL 1 = .ok (.iload_n 1, 1) := by decide +kernel
theorem dX10_ofL_2 : decode cX10_ofL 2 = .ok (.bipush 10, 2) := by decide +kernel
theorem dX10_ofL_4 : decode cX10_ofL 4 = .ok (.iconst 4, 1) := by decide +kernel
theorem dX10_ofL_5 : decode cX10_ofL 5 = .ok (.iload_n 2, 1) := by decide +kernel
theorem dX10_ofL_6 : decode cX10_ofL 6 = .ok (.imul, 1) := by decide +kernel
theorem dX10_ofL_7 : decode cX10_ofL 7 = .ok (.iadd, 1) := by decide +kernel
theorem dX10_ofL_8 : decode cX10_ofL 8 = .ok (.iload_n 3, 1) := by decide +kernel
theorem dX10_ofL_9 : decode cX10_ofL 9 = .ok (.iadd, 1) := by decide +kernel
theorem dX10_ofL_10 : decode cX10_ofL 10 = .ok (.invokevirtual 54, 3) := by decide +kernel
theorem dX10_ofL_13 : decode cX10_ofL 13 = .ok (.ireturn, 1) := by decide +kernel
theorem dX10_putL_0 : decode cX10_putL 0 = .ok (.aload_n 0, 1) := by decide +kernel
theorem dX10_putL_1 : decode cX10_putL 1 = .ok (.iload_n 1, 1) := by decide +kernel
theorem dX10_putL_2 : decode cX10_putL 2 = .ok (.bipush 10, 2) := by decide +kernel
theorem dX10_putL_4 : decode cX10_putL 4 = .ok (.iconst 4, 1) := by decide +kernel
theorem dX10_putL_5 : decode cX10_putL 5 = .ok (.iload_n 2, 1) := by decide +kernel
theorem dX10_putL_6 : decode cX10_putL 6 = .ok (.imul, 1) := by decide +kernel
theorem dX10_putL_7 : decode cX10_putL 7 = .ok (.iadd, 1) := by decide +kernel
theorem dX10_putL_8 : decode cX10_putL 8 = .ok (.iconst 0, 1) := by decide +kernel
theorem dX10_putL_9 : decode cX10_putL 9 = .ok (.iadd, 1) := by decide +kernel
theorem dX10_putL_10 : decode cX10_putL 10 = .ok (.iload_n 3, 1) := by decide +kernel
theorem dX10_putL_11 : decode cX10_putL 11 = .ok (.invokevirtual 58, 3) := by decide +kernel
theorem dX10_putL_14 : decode cX10_putL 14 = .ok (.aload_n 0, 1) := by decide +kernel
theorem dX10_putL_15 : decode cX10_putL 15 = .ok (.iload_n 1, 1) := by decide +kernel
theorem dX10_putL_16 : decode cX10_putL 16 = .ok (.bipush 10, 2) := by decide +kernel
theorem dX10_putL_18 : decode cX10_putL 18 = .ok (.iconst 4, 1) := by decide +kernel
theorem dX10_putL_19 : decode cX10_putL 19 = .ok (.iload_n 2, 1) := by decide +kernel
theorem dX10_putL_20 : decode cX10_putL 20 = .ok (.imul, 1) := by decide +kernel
theorem dX10_putL_21 : decode cX10_putL 21 = .ok (.iadd, 1) := by decide +kernel
theorem dX10_putL_22 : decode cX10_putL 22 = .ok (.iconst 1, 1) := by decide +kernel
theorem dX10_putL_23 : decode cX10_putL 23 = .ok (.iadd, 1) := by decide +kernel
theorem dX10_putL_24 : decode cX10_putL 24 = .ok (.iload 4, 2) := by decide +kernel
theorem dX10_putL_26 : decode cX10_putL 26 = .ok (.invokevirtual 58, 3) := by decide +kernel
theorem dX10_putL_29 : decode cX10_putL 29 = .ok (.aload_n 0, 1) := by decide +kernel
theorem dX10_putL_30 : decode cX10_putL 30 = .ok (.iload_n 1, 1) := by decide +kernel
theorem dX10_putL_31 : decode cX10_putL 31 = .ok (.bipush 10, 2) := by decide +kernel
theorem dX10_putL_33 : decode cX10_putL 33 = .ok (.iconst 4, 1) := by decide +kernel
theorem dX10_putL_34 : decode cX10_putL 34 = .ok (.iload_n 2, 1) := by decide +kernel
theorem dX10_putL_35 : decode cX10_putL 35 = .ok (.imul, 1) := by decide +kernel
theorem dX10_putL_36 : decode cX10_putL 36 = .ok (.iadd, 1) := by decide +kernel
theorem dX10_putL_37 : decode cX10_putL 37 = .ok (.iconst 2, 1) := by decide +kernel
theorem dX10_putL_38 : decode cX10_putL 38 = .ok (.iadd, 1) := by decide +kernel
theorem dX10_putL_39 : decode cX10_putL 39 = .ok (.iload 5, 2) := by decide +kernel
theorem dX10_putL_41 : decode cX10_putL 41 = .ok (.invokevirtual 58, 3) := by decide +kernel
theorem dX10_putL_44 : decode cX10_putL 44 = .ok (.aload_n 0, 1) := by decide +kernel
theorem dX10_putL_45 : decode cX10_putL 45 = .ok (.iload_n 1, 1) := by decide +kernel
theorem dX10_putL_46 : decode cX10_putL 46 = .ok (.bipush 10, 2) := by decide +kernel
theorem dX10_putL_48 : decode cX10_putL 48 = .ok (.iconst 4, 1) := by decide +kernel
theorem dX10_putL_49 : decode cX10_putL 49 = .ok (.iload_n 2, 1) := by decide +kernel
theorem dX10_putL_50 : decode cX10_putL 50 = .ok (.imul, 1) := by decide +kernel
theorem dX10_putL_51 : decode cX10_putL 51 = .ok (.iadd, 1) := by decide +kernel
theorem dX10_putL_52 : decode cX10_putL 52 = .ok (.iconst 3, 1) := by decide +kernel
theorem dX10_putL_53 : decode cX10_putL 53 = .ok (.iadd, 1) := by decide +kernel
theorem dX10_putL_54 : decode cX10_putL 54 = .ok (.iload 6, 2) := by decide +kernel
theorem dX10_putL_56 : decode cX10_putL 56 = .ok (.invokevirtual 58, 3) := by decide +kernel
theorem dX10_putL_59 : decode cX10_putL 59 = .ok (.return_, 1) := by decide +kernel
theorem dX10_frees_0 : decode cX10_frees 0 = .ok (.aload_n 0, 1) := by decide +kernel
theorem dX10_frees_1 : decode cX10_frees 1 = .ok (.iload_n 1, 1) := by decide +kernel
theorem dX10_frees_2 : decode cX10_frees 2 = .ok (.iconst 5, 1) := by decide +kernel
theorem dX10_frees_3 : decode cX10_frees 3 = .ok (.iconst (-1), 1) := by decide +kernel
theorem dX10_frees_4 : decode cX10_frees 4 = .ok (.invokevirtual 58, 3) := by decide +kernel
theorem dX10_frees_7 : decode cX10_frees 7 = .ok (.iconst 0, 1) := by decide +kernel
theorem dX10_frees_8 : decode cX10_frees 8 = .ok (.istore_n 2, 1) := by decide +kernel
theorem dX10_frees_9 : decode cX10_frees 9 = .ok (.iload_n 2, 1) := by decide +kernel
theorem dX10_frees_10 : decode cX10_frees 10 = .ok (.bipush 6, 2) := by decide +kernel
theorem dX10_frees_12 : decode cX10_frees 12 = .ok (.if_icmp .ge 19, 3) := by decide +kernel
theorem dX10_frees_15 : decode cX10_frees 15 = .ok (.aload_n 0, 1) := by decide +kernel
theorem dX10_frees_16 : decode cX10_frees 16 = .ok (.iload_n 1, 1) := by decide +kernel
theorem dX10_frees_17 : decode cX10_frees 17 = .ok (.iload_n 2, 1) := by decide +kernel
theorem dX10_frees_18 : decode cX10_frees 18 = .ok (.iconst 0, 1) := by decide +kernel
theorem dX10_frees_19 : decode cX10_frees 19 = .ok (.iconst (-1), 1) := by decide +kernel
theorem dX10_frees_20 : decode cX10_frees 20 = .ok (.iconst (-1), 1) := by decide +kernel
theorem dX10_frees_21 : decode cX10_frees 21 = .ok (.iconst (-1), 1) := by decide +kernel
theorem dX10_frees_22 : decode cX10_frees 22 = .ok (.invokevirtual 62, 3) := by decide +kernel
theorem dX10_frees_25 : decode cX10_frees 25 = .ok (.iinc 2 1, 3) := by decide +kernel
theorem dX10_frees_28 : decode cX10_frees 28 = .ok (.goto (-19), 3) := by decide +kernel
theorem dX10_frees_31 : decode cX10_frees 31 = .ok (.return_, 1) := by decide +kernel
theorem dX10_builds_0 : decode cX10_builds 0 = .ok (.iconst 0, 1) := by decide +kernel
theorem dX10_builds_1 : decode cX10_builds 1 = .ok (.istore_n 2, 1) := by decide +kernel
theorem dX10_builds_2 : decode cX10_builds 2 = .ok (.iload_n 2, 1) := by decide +kernel
theorem dX10_builds_3 : decode cX10_builds 3 = .ok (.sipush 139, 3) := by decide +kernel
theorem dX10_builds_6 : decode cX10_builds 6 = .ok (.if_icmp .ge 16, 3) := by decide +kernel
theorem dX10_builds_9 : decode cX10_builds 9 = .ok (.aload_n 0, 1) := by decide +kernel
theorem dX10_builds_10 : decode cX10_builds 10 = .ok (.getfield 7, 3) := by decide +kernel
theorem dX10_builds_13 : decode cX10_builds 13 = .ok (.iload_n 2, 1) := by decide +kernel
theorem dX10_builds_14 : decode cX10_builds 14 = .ok (.iconst 0, 1) := by decide +kernel
theorem dX10_builds_15 : decode cX10_builds 15 = .ok (.iastore, 1) := by decide +kernel
theorem dX10_builds_16 : decode cX10_builds 16 = .ok (.iinc 2 1, 3) := by decide +kernel
theorem dX10_builds_19 : decode cX10_builds 19 = .ok (.goto (-17), 3) := by decide +kernel
theorem dX10_builds_22 : decode cX10_builds 22 = .ok (.aload_n 0, 1) := by decide +kernel
theorem dX10_builds_23 : decode cX10_builds 23 = .ok (.getfield 7, 3) := by decide +kernel
theorem dX10_builds_26 : decode cX10_builds 26 = .ok (.iconst 0, 1) := by decide +kernel
theorem dX10_builds_27 : decode cX10_builds 27 = .ok (.iload_n 1, 1) := by decide +kernel
theorem dX10_builds_28 : decode cX10_builds 28 = .ok (.iastore, 1) := by decide +kernel
theorem dX10_builds_29 : decode cX10_builds 29 = .ok (.iconst 0, 1) := by decide +kernel
theorem dX10_builds_30 : decode cX10_builds 30 = .ok (.istore_n 2, 1) := by decide +kernel
theorem dX10_builds_31 : decode cX10_builds 31 = .ok (.iload_n 2, 1) := by decide +kernel
theorem dX10_builds_32 : decode cX10_builds 32 = .ok (.iconst 4, 1) := by decide +kernel
theorem dX10_builds_33 : decode cX10_builds 33 = .ok (.if_icmp .ge 35, 3) := by decide +kernel
theorem dX10_builds_36 : decode cX10_builds 36 = .ok (.aload_n 0, 1) := by decide +kernel
theorem dX10_builds_37 : decode cX10_builds 37 = .ok (.iload_n 2, 1) := by decide +kernel
theorem dX10_builds_38 : decode cX10_builds 38 = .ok (.iconst 0, 1) := by decide +kernel
theorem dX10_builds_39 : decode cX10_builds 39 = .ok (.iconst 3, 1) := by decide +kernel
theorem dX10_builds_40 : decode cX10_builds 40 = .ok (.invokevirtual 58, 3) := by decide +kernel
theorem dX10_builds_43 : decode cX10_builds 43 = .ok (.aload_n 0, 1) := by decide +kernel
theorem dX10_builds_44 : decode cX10_builds 44 = .ok (.iload_n 2, 1) := by decide +kernel
theorem dX10_builds_45 : decode cX10_builds 45 = .ok (.iconst 1, 1) := by decide +kernel
theorem dX10_builds_46 : decode cX10_builds 46 = .ok (.iconst 2, 1) := by decide +kernel
theorem dX10_builds_47 : decode cX10_builds 47 = .ok (.invokevirtual 58, 3) := by decide +kernel
theorem dX10_builds_50 : decode cX10_builds 50 = .ok (.aload_n 0, 1) := by decide +kernel
theorem dX10_builds_51 : decode cX10_builds 51 = .ok (.iload_n 2, 1) := by decide +kernel
theorem dX10_builds_52 : decode cX10_builds 52 = .ok (.iconst 3, 1) := by decide +kernel
theorem dX10_builds_53 : decode cX10_builds 53 = .ok (.iconst (-1), 1) := by decide +kernel
theorem dX10_builds_54 : decode cX10_builds 54 = .ok (.invokevirtual 58, 3) := by decide +kernel
theorem dX10_builds_57 : decode cX10_builds 57 = .ok (.aload_n 0, 1) := by decide +kernel
theorem dX10_builds_58 : decode cX10_builds 58 = .ok (.iload_n 2, 1) := by decide +kernel
theorem dX10_builds_59 : decode cX10_builds 59 = .ok (.invokevirtual 66, 3) := by decide +kernel
theorem dX10_builds_62 : decode cX10_builds 62 = .ok (.iinc 2 1, 3) := by decide +kernel
theorem dX10_builds_65 : decode cX10_builds 65 = .ok (.goto (-34), 3) := by decide +kernel
theorem dX10_builds_68 : decode cX10_builds 68 = .ok (.return_, 1) := by decide +kernel
theorem dX10_notes_0 : decode cX10_notes 0 = .ok (.aload_n 0, 1) := by decide +kernel
theorem dX10_notes_1 : decode cX10_notes 1 = .ok (.getfield 69, 3) := by decide +kernel
theorem dX10_notes_4 : decode cX10_notes 4 = .ok (.bipush 20, 2) := by decide +kernel
theorem dX10_notes_6 : decode cX10_notes 6 = .ok (.if_icmp .ne 44, 3) := by decide +kernel
theorem dX10_notes_9 : decode cX10_notes 9 = .ok (.iconst 0, 1) := by decide +kernel
theorem dX10_notes_10 : decode cX10_notes 10 = .ok (.istore_n 1, 1) := by decide +kernel
theorem dX10_notes_11 : decode cX10_notes 11 = .ok (.iload_n 1, 1) := by decide +kernel
theorem dX10_notes_12 : decode cX10_notes 12 = .ok (.sipush 2641, 3) := by decide +kernel
theorem dX10_notes_15 : decode cX10_notes 15 = .ok (.if_icmp .ge 25, 3) := by decide +kernel
theorem dX10_notes_18 : decode cX10_notes 18 = .ok (.aload_n 0, 1) := by decide +kernel
theorem dX10_notes_19 : decode cX10_notes 19 = .ok (.getfield 13, 3) := by decide +kernel
theorem dX10_notes_22 : decode cX10_notes 22 = .ok (.iload_n 1, 1) := by decide +kernel
theorem dX10_notes_23 : decode cX10_notes 23 = .ok (.aload_n 0, 1) := by decide +kernel
theorem dX10_notes_24 : decode cX10_notes 24 = .ok (.getfield 13, 3) := by decide +kernel
theorem dX10_notes_27 : decode cX10_notes 27 = .ok (.iload_n 1, 1) := by decide +kernel
theorem dX10_notes_28 : decode cX10_notes 28 = .ok (.sipush 139, 3) := by decide +kernel
theorem dX10_notes_31 : decode cX10_notes 31 = .ok (.iadd, 1) := by decide +kernel
theorem dX10_notes_32 : decode cX10_notes 32 = .ok (.iaload, 1) := by decide +kernel
theorem dX10_notes_33 : decode cX10_notes 33 = .ok (.iastore, 1) := by decide +kernel
theorem dX10_notes_34 : decode cX10_notes 34 = .ok (.iinc 1 1, 3) := by decide +kernel
theorem dX10_notes_37 : decode cX10_notes 37 = .ok (.goto (-26), 3) := by decide +kernel
theorem dX10_notes_40 : decode cX10_notes 40 = .ok (.aload_n 0, 1) := by decide +kernel
theorem dX10_notes_41 : decode cX10_notes 41 = .ok (.dup, 1) := by decide +kernel
theorem dX10_notes_42 : decode cX10_notes 42 = .ok (.getfield 69, 3) := by decide +kernel
theorem dX10_notes_45 : decode cX10_notes 45 = .ok (.iconst 1, 1) := by decide +kernel
theorem dX10_notes_46 : decode cX10_notes 46 = .ok (.isub, 1) := by decide +kernel
theorem dX10_notes_47 : decode cX10_notes 47 = .ok (.putfield 69, 3) := by decide +kernel
theorem dX10_notes_50 : decode cX10_notes 50 = .ok (.iconst 0, 1) := by decide +kernel
theorem dX10_notes_51 : decode cX10_notes 51 = .ok (.istore_n 1, 1) := by decide +kernel
theorem dX10_notes_52 : decode cX10_notes 52 = .ok (.iload_n 1, 1) := by decide +kernel
theorem dX10_notes_53 : decode cX10_notes 53 = .ok (.sipush 139, 3) := by decide +kernel
theorem dX10_notes_56 : decode cX10_notes 56 = .ok (.if_icmp .ge 30, 3) := by decide +kernel
theorem dX10_notes_59 : decode cX10_notes 59 = .ok (.aload_n 0, 1) := by decide +kernel
theorem dX10_notes_60 : decode cX10_notes 60 = .ok (.getfield 13, 3) := by decide +kernel
theorem dX10_notes_63 : decode cX10_notes 63 = .ok (.sipush 139, 3) := by decide +kernel
theorem dX10_notes_66 : decode cX10_notes 66 = .ok (.aload_n 0, 1) := by decide +kernel
theorem dX10_notes_67 : decode cX10_notes 67 = .ok (.getfield 69, 3) := by decide +kernel
theorem dX10_notes_70 : decode cX10_notes 70 = .ok (.imul, 1) := by decide +kernel
theorem dX10_notes_71 : decode cX10_notes 71 = .ok (.iload_n 1, 1) := by decide +kernel
theorem dX10_notes_72 : decode cX10_notes 72 = .ok (.iadd, 1) := by decide +kernel
theorem dX10_notes_73 : decode cX10_notes 73 = .ok (.aload_n 0, 1) := by decide +kernel
theorem dX10_notes_74 : decode cX10_notes 74 = .ok (.getfield 7, 3) := by decide +kernel
theorem dX10_notes_77 : decode cX10_notes 77 = .ok (.iload_n 1, 1) := by decide +kernel
theorem dX10_notes_78 : decode cX10_notes 78 = .ok (.iaload, 1) := by decide +kernel
theorem dX10_notes_79 : decode cX10_notes 79 = .ok (.iastore, 1) := by decide +kernel
theorem dX10_notes_80 : decode cX10_notes 80 = .ok (.iinc 1 1, 3) := by decide +kernel
theorem dX10_notes_83 : decode cX10_notes 83 = .ok (.goto (-31), 3) := by decide +kernel
theorem dX10_notes_86 : decode cX10_notes 86 = .ok (.aload_n 0, 1) := by decide +kernel
theorem dX10_notes_87 : decode cX10_notes 87 = .ok (.dup, 1) := by decide +kernel
theorem dX10_notes_88 : decode cX10_notes 88 = .ok (.getfield 69, 3) := by decide +kernel
theorem dX10_notes_91 : decode cX10_notes 91 = .ok (.iconst 1, 1) := by decide +kernel
theorem dX10_notes_92 : decode cX10_notes 92 = .ok (.iadd, 1) := by decide +kernel
theorem dX10_notes_93 : decode cX10_notes 93 = .ok (.putfield 69, 3) := by decide +kernel
theorem dX10_notes_96 : decode cX10_notes 96 = .ok (.return_, 1) := by decide +kernel
theorem dX10_setOf_0 : decode cX10_setOf 0 = .ok (.iconst 0, 1) := by decide +kernel
theorem dX10_setOf_1 : decode cX10_setOf 1 = .ok (.istore_n 3, 1) := by decide +kernel
theorem dX10_setOf_2 : decode cX10_setOf 2 = .ok (.iconst 0, 1) := by decide +kernel
theorem dX10_setOf_3 : decode cX10_setOf 3 = .ok (.istore 4, 2) := by decide +kernel
theorem dX10_setOf_5 : decode cX10_setOf 5 = .ok (.iload 4, 2) := by decide +kernel
theorem dX10_setOf_7 : decode cX10_setOf 7 = .ok (.aload_n 0, 1) := by decide +kernel
theorem dX10_setOf_8 : decode cX10_setOf 8 = .ok (.iload_n 1, 1) := by decide +kernel
theorem dX10_setOf_9 : decode cX10_setOf 9 = .ok (.iconst 0, 1) := by decide +kernel
theorem dX10_setOf_10 : decode cX10_setOf 10 = .ok (.invokevirtual 54, 3) := by decide +kernel
theorem dX10_setOf_13 : decode cX10_setOf 13 = .ok (.if_icmp .ge 32, 3) := by decide +kernel
theorem dX10_setOf_16 : decode cX10_setOf 16 = .ok (.iload_n 3, 1) := by decide +kernel
theorem dX10_setOf_17 : decode cX10_setOf 17 = .ok (.aload_n 0, 1) := by decide +kernel
theorem dX10_setOf_18 : decode cX10_setOf 18 = .ok (.iload_n 1, 1) := by decide +kernel
theorem dX10_setOf_19 : decode cX10_setOf 19 = .ok (.iload 4, 2) := by decide +kernel
theorem dX10_setOf_21 : decode cX10_setOf 21 = .ok (.iconst 0, 1) := by decide +kernel
theorem dX10_setOf_22 : decode cX10_setOf 22 = .ok (.invokevirtual 73, 3) := by decide +kernel
theorem dX10_setOf_25 : decode cX10_setOf 25 = .ok (.iload_n 2, 1) := by decide +kernel
theorem dX10_setOf_26 : decode cX10_setOf 26 = .ok (.if_icmp .ne 10, 3) := by decide +kernel
theorem dX10_setOf_29 : decode cX10_setOf 29 = .ok (.iconst 1, 1) := by decide +kernel
theorem dX10_setOf_30 : decode cX10_setOf 30 = .ok (.iload 4, 2) := by decide +kernel
theorem dX10_setOf_32 : decode cX10_setOf 32 = .ok (.ishl, 1) := by decide +kernel
theorem dX10_setOf_33 : decode cX10_setOf 33 = .ok (.goto 4, 3) := by decide +kernel
theorem dX10_setOf_36 : decode cX10_setOf 36 = .ok (.iconst 0, 1) := by decide +kernel
theorem dX10_setOf_37 : decode cX10_setOf 37 = .ok (.ior, 1) := by decide +kernel
theorem dX10_setOf_38 : decode cX10_setOf 38 = .ok (.istore_n 3, 1) := by decide +kernel
theorem dX10_setOf_39 : decode cX10_setOf 39 = .ok (.iinc 4 1, 3) := by decide +kernel
theorem dX10_setOf_42 : decode cX10_setOf 42 = .ok (.goto (-37), 3) := by decide +kernel
theorem dX10_setOf_45 : decode cX10_setOf 45 = .ok (.iload_n 3, 1) := by decide +kernel
theorem dX10_setOf_46 : decode cX10_setOf 46 = .ok (.ireturn, 1) := by decide +kernel
theorem dX10_ones_0 : decode cX10_ones 0 = .ok (.iconst 0, 1) := by decide +kernel
theorem dX10_ones_1 : decode cX10_ones 1 = .ok (.istore_n 1, 1) := by decide +kernel
theorem dX10_ones_2 : decode cX10_ones 2 = .ok (.iconst 0, 1) := by decide +kernel
theorem dX10_ones_3 : decode cX10_ones 3 = .ok (.istore_n 2, 1) := by decide +kernel
theorem dX10_ones_4 : decode cX10_ones 4 = .ok (.iload_n 2, 1) := by decide +kernel
theorem dX10_ones_5 : decode cX10_ones 5 = .ok (.bipush 6, 2) := by decide +kernel
theorem dX10_ones_7 : decode cX10_ones 7 = .ok (.if_icmp .ge 17, 3) := by decide +kernel
theorem dX10_ones_10 : decode cX10_ones 10 = .ok (.iload_n 1, 1) := by decide +kernel
theorem dX10_ones_11 : decode cX10_ones 11 = .ok (.iload_n 0, 1) := by decide +kernel
theorem dX10_ones_12 : decode cX10_ones 12 = .ok (.iload_n 2, 1) := by decide +kernel
theorem dX10_ones_13 : decode cX10_ones 13 = .ok (.ishr, 1) := by decide +kernel
theorem dX10_ones_14 : decode cX10_ones 14 = .ok (.iconst 1, 1) := by decide +kernel
theorem dX10_ones_15 : decode cX10_ones 15 = .ok (.iand, 1) := by decide +kernel
theorem dX10_ones_16 : decode cX10_ones 16 = .ok (.iadd, 1) := by decide +kernel
theorem dX10_ones_17 : decode cX10_ones 17 = .ok (.istore_n 1, 1) := by decide +kernel
theorem dX10_ones_18 : decode cX10_ones 18 = .ok (.iinc 2 1, 3) := by decide +kernel
theorem dX10_ones_21 : decode cX10_ones 21 = .ok (.goto (-17), 3) := by decide +kernel
theorem dX10_ones_24 : decode cX10_ones 24 = .ok (.iload_n 1, 1) := by decide +kernel
theorem dX10_ones_25 : decode cX10_ones 25 = .ok (.ireturn, 1) := by decide +kernel
theorem dX10_choice_0 : decode cX10_choice 0 = .ok (.aload_n 0, 1) := by decide +kernel
theorem dX10_choice_1 : decode cX10_choice 1 = .ok (.iload_n 1, 1) := by decide +kernel
theorem dX10_choice_2 : decode cX10_choice 2 = .ok (.iconst 0, 1) := by decide +kernel
theorem dX10_choice_3 : decode cX10_choice 3 = .ok (.invokevirtual 54, 3) := by decide +kernel
theorem dX10_choice_6 : decode cX10_choice 6 = .ok (.istore_n 2, 1) := by decide +kernel
theorem dX10_choice_7 : decode cX10_choice 7 = .ok (.iconst (-1), 1) := by decide +kernel
theorem dX10_choice_8 : decode cX10_choice 8 = .ok (.istore_n 3, 1) := by decide +kernel
theorem dX10_choice_9 : decode cX10_choice 9 = .ok (.iconst 0, 1) := by decide +kernel
theorem dX10_choice_10 : decode cX10_choice 10 = .ok (.istore 4, 2) := by decide +kernel
theorem dX10_choice_12 : decode cX10_choice 12 = .ok (.iload 4, 2) := by decide +kernel
theorem dX10_choice_14 : decode cX10_choice 14 = .ok (.iload_n 2, 1) := by decide +kernel
theorem dX10_choice_15 : decode cX10_choice 15 = .ok (.if_icmp .ge 121, 3) := by decide +kernel
theorem dX10_choice_18 : decode cX10_choice 18 = .ok (.aload_n 0, 1) := by decide +kernel
theorem dX10_choice_19 : decode cX10_choice 19 = .ok (.iload_n 1, 1) := by decide +kernel
theorem dX10_choice_20 : decode cX10_choice 20 = .ok (.iconst 4, 1) := by decide +kernel
theorem dX10_choice_21 : decode cX10_choice 21 = .ok (.invokevirtual 54, 3) := by decide +kernel
theorem dX10_choice_24 : decode cX10_choice 24 = .ok (.iconst 1, 1) := by decide +kernel
theorem dX10_choice_25 : decode cX10_choice 25 = .ok (.if_icmp .ne 12, 3) := by decide +kernel
theorem dX10_choice_28 : decode cX10_choice 28 = .ok (.iload_n 2, 1) := by decide +kernel
theorem dX10_choice_29 : decode cX10_choice 29 = .ok (.iconst 1, 1) := by decide +kernel
theorem dX10_choice_30 : decode cX10_choice 30 = .ok (.isub, 1) := by decide +kernel
theorem dX10_choice_31 : decode cX10_choice 31 = .ok (.iload 4, 2) := by decide +kernel
theorem dX10_choice_33 : decode cX10_choice 33 = .ok (.isub, 1) := by decide +kernel
theorem dX10_choice_34 : decode cX10_choice 34 = .ok (.goto 31, 3) := by decide +kernel
theorem dX10_choice_37 : decode cX10_choice 37 = .ok (.aload_n 0, 1) := by decide +kernel
theorem dX10_choice_38 : decode cX10_choice 38 = .ok (.iload_n 1, 1) := by decide +kernel
theorem dX10_choice_39 : decode cX10_choice 39 = .ok (.iconst 4, 1) := by decide +kernel
theorem dX10_choice_40 : decode cX10_choice 40 = .ok (.invokevirtual 54, 3) := by decide +kernel
theorem dX10_choice_43 : decode cX10_choice 43 = .ok (.iconst 3, 1) := by decide +kernel
theorem dX10_choice_44 : decode cX10_choice 44 = .ok (.if_icmp .ne 19, 3) := by decide +kernel
theorem dX10_choice_47 : decode cX10_choice 47 = .ok (.aload_n 0, 1) := by decide +kernel
theorem dX10_choice_48 : decode cX10_choice 48 = .ok (.iload_n 1, 1) := by decide +kernel
theorem dX10_choice_49 : decode cX10_choice 49 = .ok (.iconst 5, 1) := by decide +kernel
theorem dX10_choice_50 : decode cX10_choice 50 = .ok (.invokevirtual 54, 3) := by decide +kernel
theorem dX10_choice_53 : decode cX10_choice 53 = .ok (.iconst 1, 1) := by decide +kernel
theorem dX10_choice_54 : decode cX10_choice 54 = .ok (.iadd, 1) := by decide +kernel
theorem dX10_choice_55 : decode cX10_choice 55 = .ok (.iload 4, 2) := by decide +kernel
theorem dX10_choice_57 : decode cX10_choice 57 = .ok (.iadd, 1) := by decide +kernel
theorem dX10_choice_58 : decode cX10_choice 58 = .ok (.iload_n 2, 1) := by decide +kernel
theorem dX10_choice_59 : decode cX10_choice 59 = .ok (.irem, 1) := by decide +kernel
theorem dX10_choice_60 : decode cX10_choice 60 = .ok (.goto 5, 3) := by decide +kernel
theorem dX10_choice_63 : decode cX10_choice 63 = .ok (.iload 4, 2) := by decide +kernel
theorem dX10_choice_65 : decode cX10_choice 65 = .ok (.istore 5, 2) := by decide +kernel
theorem dX10_choice_67 : decode cX10_choice 67 = .ok (.iload_n 3, 1) := by decide +kernel
theorem dX10_choice_68 : decode cX10_choice 68 = .ok (.iconst (-1), 1) := by decide +kernel
theorem dX10_choice_69 : decode cX10_choice 69 = .ok (.if_icmp .eq 31, 3) := by decide +kernel
theorem dX10_choice_72 : decode cX10_choice 72 = .ok (.aload_n 0, 1) := by decide +kernel
theorem dX10_choice_73 : decode cX10_choice 73 = .ok (.iload_n 1, 1) := by decide +kernel
theorem dX10_choice_74 : decode cX10_choice 74 = .ok (.iconst 4, 1) := by decide +kernel
theorem dX10_choice_75 : decode cX10_choice 75 = .ok (.invokevirtual 54, 3) := by decide +kernel
theorem dX10_choice_78 : decode cX10_choice 78 = .ok (.iconst 2, 1) := by decide +kernel
theorem dX10_choice_79 : decode cX10_choice 79 = .ok (.if_icmp .ne 25, 3) := by decide +kernel
theorem dX10_choice_82 : decode cX10_choice 82 = .ok (.aload_n 0, 1) := by decide +kernel
theorem dX10_choice_83 : decode cX10_choice 83 = .ok (.iload_n 1, 1) := by decide +kernel
theorem dX10_choice_84 : decode cX10_choice 84 = .ok (.iload 5, 2) := by decide +kernel
theorem dX10_choice_86 : decode cX10_choice 86 = .ok (.iconst 3, 1) := by decide +kernel
theorem dX10_choice_87 : decode cX10_choice 87 = .ok (.invokevirtual 73, 3) := by decide +kernel
theorem dX10_choice_90 : decode cX10_choice 90 = .ok (.aload_n 0, 1) := by decide +kernel
theorem dX10_choice_91 : decode cX10_choice 91 = .ok (.iload_n 1, 1) := by decide +kernel
theorem dX10_choice_92 : decode cX10_choice 92 = .ok (.iload_n 3, 1) := by decide +kernel
theorem dX10_choice_93 : decode cX10_choice 93 = .ok (.iconst 3, 1) := by decide +kernel
theorem dX10_choice_94 : decode cX10_choice 94 = .ok (.invokevirtual 73, 3) := by decide +kernel
theorem dX10_choice_97 : decode cX10_choice 97 = .ok (.if_icmp .ge 7, 3) := by decide +kernel
theorem dX10_choice_100 : decode cX10_choice 100 = .ok (.iconst 1, 1) := by decide +kernel
theorem dX10_choice_101 : decode cX10_choice 101 = .ok (.goto 4, 3) := by decide +kernel
theorem dX10_choice_104 : decode cX10_choice 104 = .ok (.iconst 0, 1) := by decide +kernel
theorem dX10_choice_105 : decode cX10_choice 105 = .ok (.istore 6, 2) := by decide +kernel
theorem dX10_choice_107 : decode cX10_choice 107 = .ok (.aload_n 0, 1) := by decide +kernel
theorem dX10_choice_108 : decode cX10_choice 108 = .ok (.iload_n 1, 1) := by decide +kernel
theorem dX10_choice_109 : decode cX10_choice 109 = .ok (.iload 5, 2) := by decide +kernel
theorem dX10_choice_111 : decode cX10_choice 111 = .ok (.iconst 0, 1) := by decide +kernel
theorem dX10_choice_112 : decode cX10_choice 112 = .ok (.invokevirtual 73, 3) := by decide +kernel
theorem dX10_choice_115 : decode cX10_choice 115 = .ok (.ifCond .ne 13, 3) := by decide +kernel
theorem dX10_choice_118 : decode cX10_choice 118 = .ok (.iload 6, 2) := by decide +kernel
theorem dX10_choice_120 : decode cX10_choice 120 = .ok (.ifCond .eq 8, 3) := by decide +kernel
theorem dX10_choice_123 : decode cX10_choice 123 = .ok (.iload 5, 2) := by decide +kernel
theorem dX10_choice_125 : decode cX10_choice 125 = .ok (.goto 4, 3) := by decide +kernel
theorem dX10_choice_128 : decode cX10_choice 128 = .ok (.iload_n 3, 1) := by decide +kernel
theorem dX10_choice_129 : decode cX10_choice 129 = .ok (.istore_n 3, 1) := by decide +kernel
theorem dX10_choice_130 : decode cX10_choice 130 = .ok (.iinc 4 1, 3) := by decide +kernel
theorem dX10_choice_133 : decode cX10_choice 133 = .ok (.goto (-121), 3) := by decide +kernel
theorem dX10_choice_136 : decode cX10_choice 136 = .ok (.iload_n 3, 1) := by decide +kernel
theorem dX10_choice_137 : decode cX10_choice 137 = .ok (.ireturn, 1) := by decide +kernel
theorem dX10_goesTo_0 : decode cX10_goesTo 0 = .ok (.aload_n 0, 1) := by decide +kernel
theorem dX10_goesTo_1 : decode cX10_goesTo 1 = .ok (.iload_n 1, 1) := by decide +kernel
theorem dX10_goesTo_2 : decode cX10_goesTo 2 = .ok (.iconst 0, 1) := by decide +kernel
theorem dX10_goesTo_3 : decode cX10_goesTo 3 = .ok (.invokevirtual 77, 3) := by decide +kernel
theorem dX10_goesTo_6 : decode cX10_goesTo 6 = .ok (.ifCond .eq 14, 3) := by decide +kernel
theorem dX10_goesTo_9 : decode cX10_goesTo 9 = .ok (.bipush 10, 2) := by decide +kernel
theorem dX10_goesTo_11 : decode cX10_goesTo 11 = .ok (.iload_n 1, 1) := by decide +kernel
theorem dX10_goesTo_12 : decode cX10_goesTo 12 = .ok (.imul, 1) := by decide +kernel
theorem dX10_goesTo_13 : decode cX10_goesTo 13 = .ok (.aload_n 0, 1) := by decide +kernel
theorem dX10_goesTo_14 : decode cX10_goesTo 14 = .ok (.iload_n 1, 1) := by decide +kernel
theorem dX10_goesTo_15 : decode cX10_goesTo 15 = .ok (.invokevirtual 80, 3) := by decide +kernel
theorem dX10_goesTo_18 : decode cX10_goesTo 18 = .ok (.iadd, 1) := by decide +kernel
theorem dX10_goesTo_19 : decode cX10_goesTo 19 = .ok (.ireturn, 1) := by decide +kernel
theorem dX10_goesTo_20 : decode cX10_goesTo 20 = .ok (.aload_n 0, 1) := by decide +kernel
theorem dX10_goesTo_21 : decode cX10_goesTo 21 = .ok (.iload_n 1, 1) := by decide +kernel
theorem dX10_goesTo_22 : decode cX10_goesTo 22 = .ok (.iconst 3, 1) := by decide +kernel
theorem dX10_goesTo_23 : decode cX10_goesTo 23 = .ok (.invokevirtual 54, 3) := by decide +kernel
theorem dX10_goesTo_26 : decode cX10_goesTo 26 = .ok (.istore_n 2, 1) := by decide +kernel
theorem dX10_goesTo_27 : decode cX10_goesTo 27 = .ok (.iload_n 2, 1) := by decide +kernel
theorem dX10_goesTo_28 : decode cX10_goesTo 28 = .ok (.iconst (-1), 1) := by decide +kernel
theorem dX10_goesTo_29 : decode cX10_goesTo 29 = .ok (.if_icmp .eq 34, 3) := by decide +kernel
theorem dX10_goesTo_32 : decode cX10_goesTo 32 = .ok (.aload_n 0, 1) := by decide +kernel
theorem dX10_goesTo_33 : decode cX10_goesTo 33 = .ok (.iload_n 2, 1) := by decide +kernel
theorem dX10_goesTo_34 : decode cX10_goesTo 34 = .ok (.iconst 0, 1) := by decide +kernel
theorem dX10_goesTo_35 : decode cX10_goesTo 35 = .ok (.invokevirtual 77, 3) := by decide +kernel
theorem dX10_goesTo_38 : decode cX10_goesTo 38 = .ok (.invokestatic 84, 3) := by decide +kernel
theorem dX10_goesTo_41 : decode cX10_goesTo 41 = .ok (.aload_n 0, 1) := by decide +kernel
theorem dX10_goesTo_42 : decode cX10_goesTo 42 = .ok (.iload_n 2, 1) := by decide +kernel
theorem dX10_goesTo_43 : decode cX10_goesTo 43 = .ok (.iconst 2, 1) := by decide +kernel
theorem dX10_goesTo_44 : decode cX10_goesTo 44 = .ok (.invokevirtual 54, 3) := by decide +kernel
theorem dX10_goesTo_47 : decode cX10_goesTo 47 = .ok (.if_icmp .le 16, 3) := by decide +kernel
theorem dX10_goesTo_50 : decode cX10_goesTo 50 = .ok (.bipush 10, 2) := by decide +kernel
theorem dX10_goesTo_52 : decode cX10_goesTo 52 = .ok (.iload_n 2, 1) := by decide +kernel
theorem dX10_goesTo_53 : decode cX10_goesTo 53 = .ok (.imul, 1) := by decide +kernel
theorem dX10_goesTo_54 : decode cX10_goesTo 54 = .ok (.aload_n 0, 1) := by decide +kernel
theorem dX10_goesTo_55 : decode cX10_goesTo 55 = .ok (.iload_n 2, 1) := by decide +kernel
theorem dX10_goesTo_56 : decode cX10_goesTo 56 = .ok (.invokevirtual 80, 3) := by decide +kernel
theorem dX10_goesTo_59 : decode cX10_goesTo 59 = .ok (.iadd, 1) := by decide +kernel
theorem dX10_goesTo_60 : decode cX10_goesTo 60 = .ok (.goto 4, 3) := by decide +kernel
theorem dX10_goesTo_63 : decode cX10_goesTo 63 = .ok (.iconst (-1), 1) := by decide +kernel
theorem dX10_goesTo_64 : decode cX10_goesTo 64 = .ok (.ireturn, 1) := by decide +kernel
theorem dX10_held_0 : decode cX10_held 0 = .ok (.iconst 0, 1) := by decide +kernel
theorem dX10_held_1 : decode cX10_held 1 = .ok (.istore_n 1, 1) := by decide +kernel
theorem dX10_held_2 : decode cX10_held 2 = .ok (.iconst 0, 1) := by decide +kernel
theorem dX10_held_3 : decode cX10_held 3 = .ok (.istore_n 2, 1) := by decide +kernel
theorem dX10_held_4 : decode cX10_held 4 = .ok (.iload_n 2, 1) := by decide +kernel
theorem dX10_held_5 : decode cX10_held 5 = .ok (.aload_n 0, 1) := by decide +kernel
theorem dX10_held_6 : decode cX10_held 6 = .ok (.getfield 7, 3) := by decide +kernel
theorem dX10_held_9 : decode cX10_held 9 = .ok (.iconst 0, 1) := by decide +kernel
theorem dX10_held_10 : decode cX10_held 10 = .ok (.iaload, 1) := by decide +kernel
theorem dX10_held_11 : decode cX10_held 11 = .ok (.if_icmp .ge 21, 3) := by decide +kernel
theorem dX10_held_14 : decode cX10_held 14 = .ok (.iload_n 1, 1) := by decide +kernel
theorem dX10_held_15 : decode cX10_held 15 = .ok (.aload_n 0, 1) := by decide +kernel
theorem dX10_held_16 : decode cX10_held 16 = .ok (.iload_n 2, 1) := by decide +kernel
theorem dX10_held_17 : decode cX10_held 17 = .ok (.iconst 1, 1) := by decide +kernel
theorem dX10_held_18 : decode cX10_held 18 = .ok (.invokevirtual 77, 3) := by decide +kernel
theorem dX10_held_21 : decode cX10_held 21 = .ok (.invokestatic 84, 3) := by decide +kernel
theorem dX10_held_24 : decode cX10_held 24 = .ok (.iadd, 1) := by decide +kernel
theorem dX10_held_25 : decode cX10_held 25 = .ok (.istore_n 1, 1) := by decide +kernel
theorem dX10_held_26 : decode cX10_held 26 = .ok (.iinc 2 1, 3) := by decide +kernel
theorem dX10_held_29 : decode cX10_held 29 = .ok (.goto (-25), 3) := by decide +kernel
theorem dX10_held_32 : decode cX10_held 32 = .ok (.iload_n 1, 1) := by decide +kernel
theorem dX10_held_33 : decode cX10_held 33 = .ok (.ireturn, 1) := by decide +kernel
theorem dX10_lost_0 : decode cX10_lost 0 = .ok (.iconst 0, 1) := by decide +kernel
theorem dX10_lost_1 : decode cX10_lost 1 = .ok (.istore_n 1, 1) := by decide +kernel
theorem dX10_lost_2 : decode cX10_lost 2 = .ok (.iconst 0, 1) := by decide +kernel
theorem dX10_lost_3 : decode cX10_lost 3 = .ok (.istore_n 2, 1) := by decide +kernel
theorem dX10_lost_4 : decode cX10_lost 4 = .ok (.iload_n 2, 1) := by decide +kernel
theorem dX10_lost_5 : decode cX10_lost 5 = .ok (.aload_n 0, 1) := by decide +kernel
theorem dX10_lost_6 : decode cX10_lost 6 = .ok (.getfield 7, 3) := by decide +kernel
theorem dX10_lost_9 : decode cX10_lost 9 = .ok (.iconst 0, 1) := by decide +kernel
theorem dX10_lost_10 : decode cX10_lost 10 = .ok (.iaload, 1) := by decide +kernel
theorem dX10_lost_11 : decode cX10_lost 11 = .ok (.if_icmp .ge 19, 3) := by decide +kernel
theorem dX10_lost_14 : decode cX10_lost 14 = .ok (.iload_n 1, 1) := by decide +kernel
theorem dX10_lost_15 : decode cX10_lost 15 = .ok (.aload_n 0, 1) := by decide +kernel
theorem dX10_lost_16 : decode cX10_lost 16 = .ok (.iload_n 2, 1) := by decide +kernel
theorem dX10_lost_17 : decode cX10_lost 17 = .ok (.bipush 9, 2) := by decide +kernel
theorem dX10_lost_19 : decode cX10_lost 19 = .ok (.invokevirtual 54, 3) := by decide +kernel
theorem dX10_lost_22 : decode cX10_lost 22 = .ok (.iadd, 1) := by decide +kernel
theorem dX10_lost_23 : decode cX10_lost 23 = .ok (.istore_n 1, 1) := by decide +kernel
theorem dX10_lost_24 : decode cX10_lost 24 = .ok (.iinc 2 1, 3) := by decide +kernel
theorem dX10_lost_27 : decode cX10_lost 27 = .ok (.goto (-23), 3) := by decide +kernel
theorem dX10_lost_30 : decode cX10_lost 30 = .ok (.iload_n 1, 1) := by decide +kernel
theorem dX10_lost_31 : decode cX10_lost 31 = .ok (.ireturn, 1) := by decide +kernel
theorem dX10_wrong_0 : decode cX10_wrong 0 = .ok (.iconst 0, 1) := by decide +kernel
theorem dX10_wrong_1 : decode cX10_wrong 1 = .ok (.istore_n 1, 1) := by decide +kernel
theorem dX10_wrong_2 : decode cX10_wrong 2 = .ok (.iload_n 1, 1) := by decide +kernel
theorem dX10_wrong_3 : decode cX10_wrong 3 = .ok (.aload_n 0, 1) := by decide +kernel
theorem dX10_wrong_4 : decode cX10_wrong 4 = .ok (.getfield 87, 3) := by decide +kernel
theorem dX10_wrong_7 : decode cX10_wrong 7 = .ok (.if_icmp .ge 60, 3) := by decide +kernel
theorem dX10_wrong_10 : decode cX10_wrong 10 = .ok (.aload_n 0, 1) := by decide +kernel
theorem dX10_wrong_11 : decode cX10_wrong 11 = .ok (.getfield 27, 3) := by decide +kernel
theorem dX10_wrong_14 : decode cX10_wrong 14 = .ok (.iconst 3, 1) := by decide +kernel
theorem dX10_wrong_15 : decode cX10_wrong 15 = .ok (.iload_n 1, 1) := by decide +kernel
theorem dX10_wrong_16 : decode cX10_wrong 16 = .ok (.imul, 1) := by decide +kernel
theorem dX10_wrong_17 : decode cX10_wrong 17 = .ok (.iaload, 1) := by decide +kernel
theorem dX10_wrong_18 : decode cX10_wrong 18 = .ok (.istore_n 2, 1) := by decide +kernel
theorem dX10_wrong_19 : decode cX10_wrong 19 = .ok (.aload_n 0, 1) := by decide +kernel
theorem dX10_wrong_20 : decode cX10_wrong 20 = .ok (.getfield 27, 3) := by decide +kernel
theorem dX10_wrong_23 : decode cX10_wrong 23 = .ok (.iconst 3, 1) := by decide +kernel
theorem dX10_wrong_24 : decode cX10_wrong 24 = .ok (.iload_n 1, 1) := by decide +kernel
theorem dX10_wrong_25 : decode cX10_wrong 25 = .ok (.imul, 1) := by decide +kernel
theorem dX10_wrong_26 : decode cX10_wrong 26 = .ok (.iconst 1, 1) := by decide +kernel
theorem dX10_wrong_27 : decode cX10_wrong 27 = .ok (.iadd, 1) := by decide +kernel
theorem dX10_wrong_28 : decode cX10_wrong 28 = .ok (.iaload, 1) := by decide +kernel
theorem dX10_wrong_29 : decode cX10_wrong 29 = .ok (.istore_n 3, 1) := by decide +kernel
theorem dX10_wrong_30 : decode cX10_wrong 30 = .ok (.aload_n 0, 1) := by decide +kernel
theorem dX10_wrong_31 : decode cX10_wrong 31 = .ok (.iload_n 2, 1) := by decide +kernel
theorem dX10_wrong_32 : decode cX10_wrong 32 = .ok (.iload_n 3, 1) := by decide +kernel
theorem dX10_wrong_33 : decode cX10_wrong 33 = .ok (.invokevirtual 90, 3) := by decide +kernel
theorem dX10_wrong_36 : decode cX10_wrong 36 = .ok (.ifCond .eq 23, 3) := by decide +kernel
theorem dX10_wrong_39 : decode cX10_wrong 39 = .ok (.aload_n 0, 1) := by decide +kernel
theorem dX10_wrong_40 : decode cX10_wrong 40 = .ok (.iload_n 2, 1) := by decide +kernel
theorem dX10_wrong_41 : decode cX10_wrong 41 = .ok (.iload_n 3, 1) := by decide +kernel
theorem dX10_wrong_42 : decode cX10_wrong 42 = .ok (.iconst 0, 1) := by decide +kernel
theorem dX10_wrong_43 : decode cX10_wrong 43 = .ok (.invokevirtual 73, 3) := by decide +kernel
theorem dX10_wrong_46 : decode cX10_wrong 46 = .ok (.aload_n 0, 1) := by decide +kernel
theorem dX10_wrong_47 : decode cX10_wrong 47 = .ok (.getfield 27, 3) := by decide +kernel
theorem dX10_wrong_50 : decode cX10_wrong 50 = .ok (.iconst 3, 1) := by decide +kernel
theorem dX10_wrong_51 : decode cX10_wrong 51 = .ok (.iload_n 1, 1) := by decide +kernel
theorem dX10_wrong_52 : decode cX10_wrong 52 = .ok (.imul, 1) := by decide +kernel
theorem dX10_wrong_53 : decode cX10_wrong 53 = .ok (.iconst 2, 1) := by decide +kernel
theorem dX10_wrong_54 : decode cX10_wrong 54 = .ok (.iadd, 1) := by decide +kernel
theorem dX10_wrong_55 : decode cX10_wrong 55 = .ok (.iaload, 1) := by decide +kernel
theorem dX10_wrong_56 : decode cX10_wrong 56 = .ok (.if_icmp .eq 5, 3) := by decide +kernel
theorem dX10_wrong_59 : decode cX10_wrong 59 = .ok (.iload_n 1, 1) := by decide +kernel
theorem dX10_wrong_60 : decode cX10_wrong 60 = .ok (.ireturn, 1) := by decide +kernel
theorem dX10_wrong_61 : decode cX10_wrong 61 = .ok (.iinc 1 1, 3) := by decide +kernel
theorem dX10_wrong_64 : decode cX10_wrong 64 = .ok (.goto (-62), 3) := by decide +kernel
theorem dX10_wrong_67 : decode cX10_wrong 67 = .ok (.iconst (-1), 1) := by decide +kernel
theorem dX10_wrong_68 : decode cX10_wrong 68 = .ok (.ireturn, 1) := by decide +kernel
theorem dX10_loses_0 : decode cX10_loses 0 = .ok (.iconst 0, 1) := by decide +kernel
theorem dX10_loses_1 : decode cX10_loses 1 = .ok (.istore_n 1, 1) := by decide +kernel
theorem dX10_loses_2 : decode cX10_loses 2 = .ok (.iload_n 1, 1) := by decide +kernel
theorem dX10_loses_3 : decode cX10_loses 3 = .ok (.aload_n 0, 1) := by decide +kernel
theorem dX10_loses_4 : decode cX10_loses 4 = .ok (.getfield 7, 3) := by decide +kernel
theorem dX10_loses_7 : decode cX10_loses 7 = .ok (.iconst 0, 1) := by decide +kernel
theorem dX10_loses_8 : decode cX10_loses 8 = .ok (.iaload, 1) := by decide +kernel
theorem dX10_loses_9 : decode cX10_loses 9 = .ok (.if_icmp .ge 121, 3) := by decide +kernel
theorem dX10_loses_12 : decode cX10_loses 12 = .ok (.ldc2_w 94, 3) := by decide +kernel
theorem dX10_loses_15 : decode cX10_loses 15 = .ok (.lstore_n 2, 1) := by decide +kernel
theorem dX10_loses_16 : decode cX10_loses 16 = .ok (.lload_n 2, 1) := by decide +kernel
theorem dX10_loses_17 : decode cX10_loses 17 = .ok (.lstore 4, 2) := by decide +kernel
theorem dX10_loses_19 : decode cX10_loses 19 = .ok (.iconst 0, 1) := by decide +kernel
theorem dX10_loses_20 : decode cX10_loses 20 = .ok (.istore 6, 2) := by decide +kernel
theorem dX10_loses_22 : decode cX10_loses 22 = .ok (.iload 6, 2) := by decide +kernel
theorem dX10_loses_24 : decode cX10_loses 24 = .ok (.aload_n 0, 1) := by decide +kernel
theorem dX10_loses_25 : decode cX10_loses 25 = .ok (.iload_n 1, 1) := by decide +kernel
theorem dX10_loses_26 : decode cX10_loses 26 = .ok (.iconst 0, 1) := by decide +kernel
theorem dX10_loses_27 : decode cX10_loses 27 = .ok (.invokevirtual 54, 3) := by decide +kernel
theorem dX10_loses_30 : decode cX10_loses 30 = .ok (.if_icmp .ge 72, 3) := by decide +kernel
theorem dX10_loses_33 : decode cX10_loses 33 = .ok (.sipush 1000, 3) := by decide +kernel
theorem dX10_loses_36 : decode cX10_loses 36 = .ok (.aload_n 0, 1) := by decide +kernel
theorem dX10_loses_37 : decode cX10_loses 37 = .ok (.iload_n 1, 1) := by decide +kernel
theorem dX10_loses_38 : decode cX10_loses 38 = .ok (.iconst 1, 1) := by decide +kernel
theorem dX10_loses_39 : decode cX10_loses 39 = .ok (.invokevirtual 54, 3) := by decide +kernel
theorem dX10_loses_42 : decode cX10_loses 42 = .ok (.imul, 1) := by decide +kernel
theorem dX10_loses_43 : decode cX10_loses 43 = .ok (.aload_n 0, 1) := by decide +kernel
theorem dX10_loses_44 : decode cX10_loses 44 = .ok (.iload_n 1, 1) := by decide +kernel
theorem dX10_loses_45 : decode cX10_loses 45 = .ok (.iconst 0, 1) := by decide +kernel
theorem dX10_loses_46 : decode cX10_loses 46 = .ok (.invokevirtual 54, 3) := by decide +kernel
theorem dX10_loses_49 : decode cX10_loses 49 = .ok (.iload 6, 2) := by decide +kernel
theorem dX10_loses_51 : decode cX10_loses 51 = .ok (.isub, 1) := by decide +kernel
theorem dX10_loses_52 : decode cX10_loses 52 = .ok (.aload_n 0, 1) := by decide +kernel
theorem dX10_loses_53 : decode cX10_loses 53 = .ok (.iload_n 1, 1) := by decide +kernel
theorem dX10_loses_54 : decode cX10_loses 54 = .ok (.iconst 2, 1) := by decide +kernel
theorem dX10_loses_55 : decode cX10_loses 55 = .ok (.invokevirtual 54, 3) := by decide +kernel
theorem dX10_loses_58 : decode cX10_loses 58 = .ok (.if_icmp .le 12, 3) := by decide +kernel
theorem dX10_loses_61 : decode cX10_loses 61 = .ok (.aload_n 0, 1) := by decide +kernel
theorem dX10_loses_62 : decode cX10_loses 62 = .ok (.getfield 33, 3) := by decide +kernel
theorem dX10_loses_65 : decode cX10_loses 65 = .ok (.iload_n 1, 1) := by decide +kernel
theorem dX10_loses_66 : decode cX10_loses 66 = .ok (.iaload, 1) := by decide +kernel
theorem dX10_loses_67 : decode cX10_loses 67 = .ok (.goto 4, 3) := by decide +kernel
theorem dX10_loses_70 : decode cX10_loses 70 = .ok (.iconst 0, 1) := by decide +kernel
theorem dX10_loses_71 : decode cX10_loses 71 = .ok (.iadd, 1) := by decide +kernel
theorem dX10_loses_72 : decode cX10_loses 72 = .ok (.istore 7, 2) := by decide +kernel
theorem dX10_loses_74 : decode cX10_loses 74 = .ok (.lload_n 2, 1) := by decide +kernel
theorem dX10_loses_75 : decode cX10_loses 75 = .ok (.iload 7, 2) := by decide +kernel
theorem dX10_loses_77 : decode cX10_loses 77 = .ok (.i2l, 1) := by decide +kernel
theorem dX10_loses_78 : decode cX10_loses 78 = .ok (.lmul, 1) := by decide +kernel
theorem dX10_loses_79 : decode cX10_loses 79 = .ok (.ldc2_w 96, 3) := by decide +kernel
theorem dX10_loses_82 : decode cX10_loses 82 = .ok (.iload 6, 2) := by decide +kernel
theorem dX10_loses_84 : decode cX10_loses 84 = .ok (.iconst 1, 1) := by decide +kernel
theorem dX10_loses_85 : decode cX10_loses 85 = .ok (.iadd, 1) := by decide +kernel
theorem dX10_loses_86 : decode cX10_loses 86 = .ok (.i2l, 1) := by decide +kernel
theorem dX10_loses_87 : decode cX10_loses 87 = .ok (.lmul, 1) := by decide +kernel
theorem dX10_loses_88 : decode cX10_loses 88 = .ok (.ldiv, 1) := by decide +kernel
theorem dX10_loses_89 : decode cX10_loses 89 = .ok (.lstore_n 2, 1) := by decide +kernel
theorem dX10_loses_90 : decode cX10_loses 90 = .ok (.lload 4, 2) := by decide +kernel
theorem dX10_loses_92 : decode cX10_loses 92 = .ok (.lload_n 2, 1) := by decide +kernel
theorem dX10_loses_93 : decode cX10_loses 93 = .ok (.ladd, 1) := by decide +kernel
theorem dX10_loses_94 : decode cX10_loses 94 = .ok (.lstore 4, 2) := by decide +kernel
theorem dX10_loses_96 : decode cX10_loses 96 = .ok (.iinc 6 1, 3) := by decide +kernel
theorem dX10_loses_99 : decode cX10_loses 99 = .ok (.goto (-77), 3) := by decide +kernel
theorem dX10_loses_102 : decode cX10_loses 102 = .ok (.aload_n 0, 1) := by decide +kernel
theorem dX10_loses_103 : decode cX10_loses 103 = .ok (.getfield 36, 3) := by decide +kernel
theorem dX10_loses_106 : decode cX10_loses 106 = .ok (.iload_n 1, 1) := by decide +kernel
theorem dX10_loses_107 : decode cX10_loses 107 = .ok (.ldc2_w 96, 3) := by decide +kernel
theorem dX10_loses_110 : decode cX10_loses 110 = .ok (.lload_n 2, 1) := by decide +kernel
theorem dX10_loses_111 : decode cX10_loses 111 = .ok (.lmul, 1) := by decide +kernel
theorem dX10_loses_112 : decode cX10_loses 112 = .ok (.lload 4, 2) := by decide +kernel
theorem dX10_loses_114 : decode cX10_loses 114 = .ok (.ldiv, 1) := by decide +kernel
theorem dX10_loses_115 : decode cX10_loses 115 = .ok (.l2i, 1) := by decide +kernel
theorem dX10_loses_116 : decode cX10_loses 116 = .ok (.iastore, 1) := by decide +kernel
theorem dX10_loses_117 : decode cX10_loses 117 = .ok (.aload_n 0, 1) := by decide +kernel
theorem dX10_loses_118 : decode cX10_loses 118 = .ok (.getfield 39, 3) := by decide +kernel
theorem dX10_loses_121 : decode cX10_loses 121 = .ok (.iload_n 1, 1) := by decide +kernel
theorem dX10_loses_122 : decode cX10_loses 122 = .ok (.iconst 0, 1) := by decide +kernel
theorem dX10_loses_123 : decode cX10_loses 123 = .ok (.iastore, 1) := by decide +kernel
theorem dX10_loses_124 : decode cX10_loses 124 = .ok (.iinc 1 1, 3) := by decide +kernel
theorem dX10_loses_127 : decode cX10_loses 127 = .ok (.goto (-125), 3) := by decide +kernel
theorem dX10_loses_130 : decode cX10_loses 130 = .ok (.return_, 1) := by decide +kernel
theorem dX10_together_0 : decode cX10_together 0 = .ok (.iconst 0, 1) := by decide +kernel
theorem dX10_together_1 : decode cX10_together 1 = .ok (.istore_n 1, 1) := by decide +kernel
theorem dX10_together_2 : decode cX10_together 2 = .ok (.iload_n 1, 1) := by decide +kernel
theorem dX10_together_3 : decode cX10_together 3 = .ok (.iconst 4, 1) := by decide +kernel
theorem dX10_together_4 : decode cX10_together 4 = .ok (.if_icmp .ge 16, 3) := by decide +kernel
theorem dX10_together_7 : decode cX10_together 7 = .ok (.aload_n 0, 1) := by decide +kernel
theorem dX10_together_8 : decode cX10_together 8 = .ok (.getfield 33, 3) := by decide +kernel
theorem dX10_together_11 : decode cX10_together 11 = .ok (.iload_n 1, 1) := by decide +kernel
theorem dX10_together_12 : decode cX10_together 12 = .ok (.iconst 0, 1) := by decide +kernel
theorem dX10_together_13 : decode cX10_together 13 = .ok (.iastore, 1) := by decide +kernel
theorem dX10_together_14 : decode cX10_together 14 = .ok (.iinc 1 1, 3) := by decide +kernel
theorem dX10_together_17 : decode cX10_together 17 = .ok (.goto (-15), 3) := by decide +kernel
theorem dX10_together_20 : decode cX10_together 20 = .ok (.aload_n 0, 1) := by decide +kernel
theorem dX10_together_21 : decode cX10_together 21 = .ok (.iconst 0, 1) := by decide +kernel
theorem dX10_together_22 : decode cX10_together 22 = .ok (.putfield 98, 3) := by decide +kernel
theorem dX10_together_25 : decode cX10_together 25 = .ok (.iconst 1, 1) := by decide +kernel
theorem dX10_together_26 : decode cX10_together 26 = .ok (.istore_n 1, 1) := by decide +kernel
theorem dX10_together_27 : decode cX10_together 27 = .ok (.iload_n 1, 1) := by decide +kernel
theorem dX10_together_28 : decode cX10_together 28 = .ok (.ifCond .eq 141, 3) := by decide +kernel
theorem dX10_together_31 : decode cX10_together 31 = .ok (.aload_n 0, 1) := by decide +kernel
theorem dX10_together_32 : decode cX10_together 32 = .ok (.getfield 98, 3) := by decide +kernel
theorem dX10_together_35 : decode cX10_together 35 = .ok (.bipush 30, 2) := by decide +kernel
theorem dX10_together_37 : decode cX10_together 37 = .ok (.if_icmp .ge 132, 3) := by decide +kernel
theorem dX10_together_40 : decode cX10_together 40 = .ok (.aload_n 0, 1) := by decide +kernel
theorem dX10_together_41 : decode cX10_together 41 = .ok (.dup, 1) := by decide +kernel
theorem dX10_together_42 : decode cX10_together 42 = .ok (.getfield 98, 3) := by decide +kernel
theorem dX10_together_45 : decode cX10_together 45 = .ok (.iconst 1, 1) := by decide +kernel
theorem dX10_together_46 : decode cX10_together 46 = .ok (.iadd, 1) := by decide +kernel
theorem dX10_together_47 : decode cX10_together 47 = .ok (.putfield 98, 3) := by decide +kernel
theorem dX10_together_50 : decode cX10_together 50 = .ok (.aload_n 0, 1) := by decide +kernel
theorem dX10_together_51 : decode cX10_together 51 = .ok (.invokevirtual 101, 3) := by decide +kernel
theorem dX10_together_54 : decode cX10_together 54 = .ok (.iconst 0, 1) := by decide +kernel
theorem dX10_together_55 : decode cX10_together 55 = .ok (.istore_n 2, 1) := by decide +kernel
theorem dX10_together_56 : decode cX10_together 56 = .ok (.iload_n 2, 1) := by decide +kernel
theorem dX10_together_57 : decode cX10_together 57 = .ok (.aload_n 0, 1) := by decide +kernel
theorem dX10_together_58 : decode cX10_together 58 = .ok (.getfield 7, 3) := by decide +kernel
theorem dX10_together_61 : decode cX10_together 61 = .ok (.iconst 0, 1) := by decide +kernel
theorem dX10_together_62 : decode cX10_together 62 = .ok (.iaload, 1) := by decide +kernel
theorem dX10_together_63 : decode cX10_together 63 = .ok (.if_icmp .ge 46, 3) := by decide +kernel
theorem dX10_together_66 : decode cX10_together 66 = .ok (.aload_n 0, 1) := by decide +kernel
theorem dX10_together_67 : decode cX10_together 67 = .ok (.iload_n 2, 1) := by decide +kernel
theorem dX10_together_68 : decode cX10_together 68 = .ok (.iconst 3, 1) := by decide +kernel
theorem dX10_together_69 : decode cX10_together 69 = .ok (.invokevirtual 54, 3) := by decide +kernel
theorem dX10_together_72 : decode cX10_together 72 = .ok (.iconst (-1), 1) := by decide +kernel
theorem dX10_together_73 : decode cX10_together 73 = .ok (.if_icmp .eq 30, 3) := by decide +kernel
theorem dX10_together_76 : decode cX10_together 76 = .ok (.aload_n 0, 1) := by decide +kernel
theorem dX10_together_77 : decode cX10_together 77 = .ok (.getfield 39, 3) := by decide +kernel
theorem dX10_together_80 : decode cX10_together 80 = .ok (.aload_n 0, 1) := by decide +kernel
theorem dX10_together_81 : decode cX10_together 81 = .ok (.iload_n 2, 1) := by decide +kernel
theorem dX10_together_82 : decode cX10_together 82 = .ok (.iconst 3, 1) := by decide +kernel
theorem dX10_together_83 : decode cX10_together 83 = .ok (.invokevirtual 54, 3) := by decide +kernel
theorem dX10_together_86 : decode cX10_together 86 = .ok (.dup2, 1) := by decide +kernel
theorem dX10_together_87 : decode cX10_together 87 = .ok (.iaload, 1) := by decide +kernel
theorem dX10_together_88 : decode cX10_together 88 = .ok (.aload_n 0, 1) := by decide +kernel
theorem dX10_together_89 : decode cX10_together 89 = .ok (.iload_n 2, 1) := by decide +kernel
theorem dX10_together_90 : decode cX10_together 90 = .ok (.iconst 1, 1) := by decide +kernel
theorem dX10_together_91 : decode cX10_together 91 = .ok (.invokevirtual 54, 3) := by decide +kernel
theorem dX10_together_94 : decode cX10_together 94 = .ok (.aload_n 0, 1) := by decide +kernel
theorem dX10_together_95 : decode cX10_together 95 = .ok (.getfield 36, 3) := by decide +kernel
theorem dX10_together_98 : decode cX10_together 98 = .ok (.iload_n 2, 1) := by decide +kernel
theorem dX10_together_99 : decode cX10_together 99 = .ok (.iaload, 1) := by decide +kernel
theorem dX10_together_100 : decode cX10_together 100 = .ok (.imul, 1) := by decide +kernel
theorem dX10_together_101 : decode cX10_together 101 = .ok (.iadd, 1) := by decide +kernel
theorem dX10_together_102 : decode cX10_together 102 = .ok (.iastore, 1) := by decide +kernel
theorem dX10_together_103 : decode cX10_together 103 = .ok (.iinc 2 1, 3) := by decide +kernel
theorem dX10_together_106 : decode cX10_together 106 = .ok (.goto (-50), 3) := by decide +kernel
theorem dX10_together_109 : decode cX10_together 109 = .ok (.iconst 0, 1) := by decide +kernel
theorem dX10_together_110 : decode cX10_together 110 = .ok (.istore_n 1, 1) := by decide +kernel
theorem dX10_together_111 : decode cX10_together 111 = .ok (.iconst 0, 1) := by decide +kernel
theorem dX10_together_112 : decode cX10_together 112 = .ok (.istore_n 2, 1) := by decide +kernel
theorem dX10_together_113 : decode cX10_together 113 = .ok (.iload_n 2, 1) := by decide +kernel
theorem dX10_together_114 : decode cX10_together 114 = .ok (.aload_n 0, 1) := by decide +kernel
theorem dX10_together_115 : decode cX10_together 115 = .ok (.getfield 7, 3) := by decide +kernel
theorem dX10_together_118 : decode cX10_together 118 = .ok (.iconst 0, 1) := by decide +kernel
theorem dX10_together_119 : decode cX10_together 119 = .ok (.iaload, 1) := by decide +kernel
theorem dX10_together_120 : decode cX10_together 120 = .ok (.if_icmp .ge 46, 3) := by decide +kernel
theorem dX10_together_123 : decode cX10_together 123 = .ok (.iload_n 1, 1) := by decide +kernel
theorem dX10_together_124 : decode cX10_together 124 = .ok (.ifCond .ne 18, 3) := by decide +kernel
theorem dX10_together_127 : decode cX10_together 127 = .ok (.aload_n 0, 1) := by decide +kernel
theorem dX10_together_128 : decode cX10_together 128 = .ok (.getfield 39, 3) := by decide +kernel
theorem dX10_together_131 : decode cX10_together 131 = .ok (.iload_n 2, 1) := by decide +kernel
theorem dX10_together_132 : decode cX10_together 132 = .ok (.iaload, 1) := by decide +kernel
theorem dX10_together_133 : decode cX10_together 133 = .ok (.aload_n 0, 1) := by decide +kernel
theorem dX10_together_134 : decode cX10_together 134 = .ok (.getfield 33, 3) := by decide +kernel
theorem dX10_together_137 : decode cX10_together 137 = .ok (.iload_n 2, 1) := by decide +kernel
theorem dX10_together_138 : decode cX10_together 138 = .ok (.iaload, 1) := by decide +kernel
theorem dX10_together_139 : decode cX10_together 139 = .ok (.if_icmp .eq 7, 3) := by decide +kernel
theorem dX10_together_142 : decode cX10_together 142 = .ok (.iconst 1, 1) := by decide +kernel
theorem dX10_together_143 : decode cX10_together 143 = .ok (.goto 4, 3) := by decide +kernel
theorem dX10_together_146 : decode cX10_together 146 = .ok (.iconst 0, 1) := by decide +kernel
theorem dX10_together_147 : decode cX10_together 147 = .ok (.istore_n 1, 1) := by decide +kernel
theorem dX10_together_148 : decode cX10_together 148 = .ok (.aload_n 0, 1) := by decide +kernel
theorem dX10_together_149 : decode cX10_together 149 = .ok (.getfield 33, 3) := by decide +kernel
theorem dX10_together_152 : decode cX10_together 152 = .ok (.iload_n 2, 1) := by decide +kernel
theorem dX10_together_153 : decode cX10_together 153 = .ok (.aload_n 0, 1) := by decide +kernel
theorem dX10_together_154 : decode cX10_together 154 = .ok (.getfield 39, 3) := by decide +kernel
theorem dX10_together_157 : decode cX10_together 157 = .ok (.iload_n 2, 1) := by decide +kernel
theorem dX10_together_158 : decode cX10_together 158 = .ok (.iaload, 1) := by decide +kernel
theorem dX10_together_159 : decode cX10_together 159 = .ok (.iastore, 1) := by decide +kernel
theorem dX10_together_160 : decode cX10_together 160 = .ok (.iinc 2 1, 3) := by decide +kernel
theorem dX10_together_163 : decode cX10_together 163 = .ok (.goto (-50), 3) := by decide +kernel
theorem dX10_together_166 : decode cX10_together 166 = .ok (.goto (-139), 3) := by decide +kernel
theorem dX10_together_169 : decode cX10_together 169 = .ok (.aload_n 0, 1) := by decide +kernel
theorem dX10_together_170 : decode cX10_together 170 = .ok (.invokevirtual 101, 3) := by decide +kernel
theorem dX10_together_173 : decode cX10_together 173 = .ok (.return_, 1) := by decide +kernel
theorem dX10_told_0 : decode cX10_told 0 = .ok (.iload_n 1, 1) := by decide +kernel
theorem dX10_told_1 : decode cX10_told 1 = .ok (.tableswitch 92 0 8 #[51, 51, 51, 58, 63, 68, 77, 82, 87], 51) := by decide +kernel
theorem dX10_told_52 : decode cX10_told 52 = .ok (.aload_n 0, 1) := by decide +kernel
theorem dX10_told_53 : decode cX10_told 53 = .ok (.getfield 7, 3) := by decide +kernel
theorem dX10_told_56 : decode cX10_told 56 = .ok (.iload_n 1, 1) := by decide +kernel
theorem dX10_told_57 : decode cX10_told 57 = .ok (.iaload, 1) := by decide +kernel
theorem dX10_told_58 : decode cX10_told 58 = .ok (.ireturn, 1) := by decide +kernel
theorem dX10_told_59 : decode cX10_told 59 = .ok (.aload_n 0, 1) := by decide +kernel
theorem dX10_told_60 : decode cX10_told 60 = .ok (.invokevirtual 104, 3) := by decide +kernel
theorem dX10_told_63 : decode cX10_told 63 = .ok (.ireturn, 1) := by decide +kernel
theorem dX10_told_64 : decode cX10_told 64 = .ok (.aload_n 0, 1) := by decide +kernel
theorem dX10_told_65 : decode cX10_told 65 = .ok (.invokevirtual 108, 3) := by decide +kernel
theorem dX10_told_68 : decode cX10_told 68 = .ok (.ireturn, 1) := by decide +kernel
theorem dX10_told_69 : decode cX10_told 69 = .ok (.aload_n 0, 1) := by decide +kernel
theorem dX10_told_70 : decode cX10_told 70 = .ok (.invokevirtual 111, 3) := by decide +kernel
theorem dX10_told_73 : decode cX10_told 73 = .ok (.aload_n 0, 1) := by decide +kernel
theorem dX10_told_74 : decode cX10_told 74 = .ok (.getfield 98, 3) := by decide +kernel
theorem dX10_told_77 : decode cX10_told 77 = .ok (.ireturn, 1) := by decide +kernel
theorem dX10_told_78 : decode cX10_told 78 = .ok (.aload_n 0, 1) := by decide +kernel
theorem dX10_told_79 : decode cX10_told 79 = .ok (.getfield 87, 3) := by decide +kernel
theorem dX10_told_82 : decode cX10_told 82 = .ok (.ireturn, 1) := by decide +kernel
theorem dX10_told_83 : decode cX10_told 83 = .ok (.aload_n 0, 1) := by decide +kernel
theorem dX10_told_84 : decode cX10_told 84 = .ok (.invokevirtual 114, 3) := by decide +kernel
theorem dX10_told_87 : decode cX10_told 87 = .ok (.ireturn, 1) := by decide +kernel
theorem dX10_told_88 : decode cX10_told 88 = .ok (.aload_n 0, 1) := by decide +kernel
theorem dX10_told_89 : decode cX10_told 89 = .ok (.getfield 69, 3) := by decide +kernel
theorem dX10_told_92 : decode cX10_told 92 = .ok (.ireturn, 1) := by decide +kernel
theorem dX10_told_93 : decode cX10_told 93 = .ok (.ldc 117, 2) := by decide +kernel
theorem dX10_told_95 : decode cX10_told 95 = .ok (.ireturn, 1) := by decide +kernel
theorem dX10_group_0 : decode cX10_group 0 = .ok (.aload_n 0, 1) := by decide +kernel
theorem dX10_group_1 : decode cX10_group 1 = .ok (.iload_n 1, 1) := by decide +kernel
theorem dX10_group_2 : decode cX10_group 2 = .ok (.invokevirtual 50, 3) := by decide +kernel
theorem dX10_group_5 : decode cX10_group 5 = .ok (.ifCond .ne 6, 3) := by decide +kernel
theorem dX10_group_8 : decode cX10_group 8 = .ok (.ldc 118, 2) := by decide +kernel
theorem dX10_group_10 : decode cX10_group 10 = .ok (.ireturn, 1) := by decide +kernel
theorem dX10_group_11 : decode cX10_group 11 = .ok (.iload_n 2, 1) := by decide +kernel
theorem dX10_group_12 : decode cX10_group 12 = .ok (.tableswitch 133 0 14 #[76, 76, 76, 76, 76, 83, 83, 83, 92, 92, 92, 92, 105, 111, 122], 76) := by decide +kernel
theorem dX10_group_88 : decode cX10_group 88 = .ok (.aload_n 0, 1) := by decide +kernel
theorem dX10_group_89 : decode cX10_group 89 = .ok (.iload_n 1, 1) := by decide +kernel
theorem dX10_group_90 : decode cX10_group 90 = .ok (.iload_n 2, 1) := by decide +kernel
theorem dX10_group_91 : decode cX10_group 91 = .ok (.invokevirtual 54, 3) := by decide +kernel
theorem dX10_group_94 : decode cX10_group 94 = .ok (.ireturn, 1) := by decide +kernel
theorem dX10_group_95 : decode cX10_group 95 = .ok (.aload_n 0, 1) := by decide +kernel
theorem dX10_group_96 : decode cX10_group 96 = .ok (.iload_n 1, 1) := by decide +kernel
theorem dX10_group_97 : decode cX10_group 97 = .ok (.iload_n 2, 1) := by decide +kernel
theorem dX10_group_98 : decode cX10_group 98 = .ok (.iconst 5, 1) := by decide +kernel
theorem dX10_group_99 : decode cX10_group 99 = .ok (.isub, 1) := by decide +kernel
theorem dX10_group_100 : decode cX10_group 100 = .ok (.invokevirtual 77, 3) := by decide +kernel
theorem dX10_group_103 : decode cX10_group 103 = .ok (.ireturn, 1) := by decide +kernel
theorem dX10_group_104 : decode cX10_group 104 = .ok (.aload_n 0, 1) := by decide +kernel
theorem dX10_group_105 : decode cX10_group 105 = .ok (.iload_n 1, 1) := by decide +kernel
theorem dX10_group_106 : decode cX10_group 106 = .ok (.bipush 6, 2) := by decide +kernel
theorem dX10_group_108 : decode cX10_group 108 = .ok (.iload_n 2, 1) := by decide +kernel
theorem dX10_group_109 : decode cX10_group 109 = .ok (.iadd, 1) := by decide +kernel
theorem dX10_group_110 : decode cX10_group 110 = .ok (.bipush 8, 2) := by decide +kernel
theorem dX10_group_112 : decode cX10_group 112 = .ok (.isub, 1) := by decide +kernel
theorem dX10_group_113 : decode cX10_group 113 = .ok (.invokevirtual 54, 3) := by decide +kernel
theorem dX10_group_116 : decode cX10_group 116 = .ok (.ireturn, 1) := by decide +kernel
theorem dX10_group_117 : decode cX10_group 117 = .ok (.aload_n 0, 1) := by decide +kernel
theorem dX10_group_118 : decode cX10_group 118 = .ok (.iload_n 1, 1) := by decide +kernel
theorem dX10_group_119 : decode cX10_group 119 = .ok (.invokevirtual 119, 3) := by decide +kernel
theorem dX10_group_122 : decode cX10_group 122 = .ok (.ireturn, 1) := by decide +kernel
theorem dX10_group_123 : decode cX10_group 123 = .ok (.aload_n 0, 1) := by decide +kernel
theorem dX10_group_124 : decode cX10_group 124 = .ok (.invokevirtual 111, 3) := by decide +kernel
theorem dX10_group_127 : decode cX10_group 127 = .ok (.aload_n 0, 1) := by decide +kernel
theorem dX10_group_128 : decode cX10_group 128 = .ok (.getfield 33, 3) := by decide +kernel
theorem dX10_group_131 : decode cX10_group 131 = .ok (.iload_n 1, 1) := by decide +kernel
theorem dX10_group_132 : decode cX10_group 132 = .ok (.iaload, 1) := by decide +kernel
theorem dX10_group_133 : decode cX10_group 133 = .ok (.ireturn, 1) := by decide +kernel
theorem dX10_group_134 : decode cX10_group 134 = .ok (.aload_n 0, 1) := by decide +kernel
theorem dX10_group_135 : decode cX10_group 135 = .ok (.invokevirtual 111, 3) := by decide +kernel
theorem dX10_group_138 : decode cX10_group 138 = .ok (.aload_n 0, 1) := by decide +kernel
theorem dX10_group_139 : decode cX10_group 139 = .ok (.getfield 36, 3) := by decide +kernel
theorem dX10_group_142 : decode cX10_group 142 = .ok (.iload_n 1, 1) := by decide +kernel
theorem dX10_group_143 : decode cX10_group 143 = .ok (.iaload, 1) := by decide +kernel
theorem dX10_group_144 : decode cX10_group 144 = .ok (.ireturn, 1) := by decide +kernel
theorem dX10_group_145 : decode cX10_group 145 = .ok (.ldc 117, 2) := by decide +kernel
theorem dX10_group_147 : decode cX10_group 147 = .ok (.ireturn, 1) := by decide +kernel
theorem dX10_line_0 : decode cX10_line 0 = .ok (.aload_n 0, 1) := by decide +kernel
theorem dX10_line_1 : decode cX10_line 1 = .ok (.iload_n 1, 1) := by decide +kernel
theorem dX10_line_2 : decode cX10_line 2 = .ok (.iload_n 2, 1) := by decide +kernel
theorem dX10_line_3 : decode cX10_line 3 = .ok (.invokevirtual 90, 3) := by decide +kernel
theorem dX10_line_6 : decode cX10_line 6 = .ok (.ifCond .ne 8, 3) := by decide +kernel
theorem dX10_line_9 : decode cX10_line 9 = .ok (.ldc 118, 2) := by decide +kernel
theorem dX10_line_11 : decode cX10_line 11 = .ok (.goto 24, 3) := by decide +kernel
theorem dX10_line_14 : decode cX10_line 14 = .ok (.iload_n 3, 1) := by decide +kernel
theorem dX10_line_15 : decode cX10_line 15 = .ok (.iconst 0, 1) := by decide +kernel
theorem dX10_line_16 : decode cX10_line 16 = .ok (.iconst 2, 1) := by decide +kernel
theorem dX10_line_17 : decode cX10_line 17 = .ok (.invokestatic 46, 3) := by decide +kernel
theorem dX10_line_20 : decode cX10_line 20 = .ok (.ifCond .eq 13, 3) := by decide +kernel
theorem dX10_line_23 : decode cX10_line 23 = .ok (.aload_n 0, 1) := by decide +kernel
theorem dX10_line_24 : decode cX10_line 24 = .ok (.iload_n 1, 1) := by decide +kernel
theorem dX10_line_25 : decode cX10_line 25 = .ok (.iload_n 2, 1) := by decide +kernel
theorem dX10_line_26 : decode cX10_line 26 = .ok (.iload_n 3, 1) := by decide +kernel
theorem dX10_line_27 : decode cX10_line 27 = .ok (.invokevirtual 73, 3) := by decide +kernel
theorem dX10_line_30 : decode cX10_line 30 = .ok (.goto 5, 3) := by decide +kernel
theorem dX10_line_33 : decode cX10_line 33 = .ok (.ldc 117, 2) := by decide +kernel
theorem dX10_line_35 : decode cX10_line 35 = .ok (.ireturn, 1) := by decide +kernel
theorem dX10_build_0 : decode cX10_build 0 = .ok (.iload_n 1, 1) := by decide +kernel
theorem dX10_build_1 : decode cX10_build 1 = .ok (.iconst 1, 1) := by decide +kernel
theorem dX10_build_2 : decode cX10_build 2 = .ok (.iconst 4, 1) := by decide +kernel
theorem dX10_build_3 : decode cX10_build 3 = .ok (.invokestatic 46, 3) := by decide +kernel
theorem dX10_build_6 : decode cX10_build 6 = .ok (.ifCond .ne 6, 3) := by decide +kernel
theorem dX10_build_9 : decode cX10_build 9 = .ok (.ldc 117, 2) := by decide +kernel
theorem dX10_build_11 : decode cX10_build 11 = .ok (.ireturn, 1) := by decide +kernel
theorem dX10_build_12 : decode cX10_build 12 = .ok (.aload_n 0, 1) := by decide +kernel
theorem dX10_build_13 : decode cX10_build 13 = .ok (.invokevirtual 122, 3) := by decide +kernel
theorem dX10_build_16 : decode cX10_build 16 = .ok (.aload_n 0, 1) := by decide +kernel
theorem dX10_build_17 : decode cX10_build 17 = .ok (.getfield 7, 3) := by decide +kernel
theorem dX10_build_20 : decode cX10_build 20 = .ok (.iconst 0, 1) := by decide +kernel
theorem dX10_build_21 : decode cX10_build 21 = .ok (.iaload, 1) := by decide +kernel
theorem dX10_build_22 : decode cX10_build 22 = .ok (.istore_n 2, 1) := by decide +kernel
theorem dX10_build_23 : decode cX10_build 23 = .ok (.aload_n 0, 1) := by decide +kernel
theorem dX10_build_24 : decode cX10_build 24 = .ok (.iload_n 1, 1) := by decide +kernel
theorem dX10_build_25 : decode cX10_build 25 = .ok (.invokevirtual 42, 3) := by decide +kernel
theorem dX10_build_28 : decode cX10_build 28 = .ok (.iload_n 2, 1) := by decide +kernel
theorem dX10_build_29 : decode cX10_build 29 = .ok (.ireturn, 1) := by decide +kernel
theorem dX10_shape_0 : decode cX10_shape 0 = .ok (.aload_n 0, 1) := by decide +kernel
theorem dX10_shape_1 : decode cX10_shape 1 = .ok (.iload_n 1, 1) := by decide +kernel
theorem dX10_shape_2 : decode cX10_shape 2 = .ok (.invokevirtual 50, 3) := by decide +kernel
theorem dX10_shape_5 : decode cX10_shape 5 = .ok (.ifCond .eq 24, 3) := by decide +kernel
theorem dX10_shape_8 : decode cX10_shape 8 = .ok (.iload 5, 2) := by decide +kernel
theorem dX10_shape_10 : decode cX10_shape 10 = .ok (.iconst (-1), 1) := by decide +kernel
theorem dX10_shape_11 : decode cX10_shape 11 = .ok (.if_icmp .eq 12, 3) := by decide +kernel
theorem dX10_shape_14 : decode cX10_shape 14 = .ok (.aload_n 0, 1) := by decide +kernel
theorem dX10_shape_15 : decode cX10_shape 15 = .ok (.iload 5, 2) := by decide +kernel
theorem dX10_shape_17 : decode cX10_shape 17 = .ok (.invokevirtual 50, 3) := by decide +kernel
theorem dX10_shape_20 : decode cX10_shape 20 = .ok (.ifCond .eq 9, 3) := by decide +kernel
theorem dX10_shape_23 : decode cX10_shape 23 = .ok (.iload 5, 2) := by decide +kernel
theorem dX10_shape_25 : decode cX10_shape 25 = .ok (.iload_n 1, 1) := by decide +kernel
theorem dX10_shape_26 : decode cX10_shape 26 = .ok (.if_icmp .ne 6, 3) := by decide +kernel
theorem dX10_shape_29 : decode cX10_shape 29 = .ok (.ldc 118, 2) := by decide +kernel
theorem dX10_shape_31 : decode cX10_shape 31 = .ok (.ireturn, 1) := by decide +kernel
theorem dX10_shape_32 : decode cX10_shape 32 = .ok (.iload_n 2, 1) := by decide +kernel
theorem dX10_shape_33 : decode cX10_shape 33 = .ok (.iconst 1, 1) := by decide +kernel
theorem dX10_shape_34 : decode cX10_shape 34 = .ok (.bipush 6, 2) := by decide +kernel
theorem dX10_shape_36 : decode cX10_shape 36 = .ok (.invokestatic 46, 3) := by decide +kernel
theorem dX10_shape_39 : decode cX10_shape 39 = .ok (.ifCond .eq 33, 3) := by decide +kernel
theorem dX10_shape_42 : decode cX10_shape 42 = .ok (.iload_n 3, 1) := by decide +kernel
theorem dX10_shape_43 : decode cX10_shape 43 = .ok (.iconst 0, 1) := by decide +kernel
theorem dX10_shape_44 : decode cX10_shape 44 = .ok (.bipush 6, 2) := by decide +kernel
theorem dX10_shape_46 : decode cX10_shape 46 = .ok (.invokestatic 46, 3) := by decide +kernel
theorem dX10_shape_49 : decode cX10_shape 49 = .ok (.ifCond .eq 23, 3) := by decide +kernel
theorem dX10_shape_52 : decode cX10_shape 52 = .ok (.iload 4, 2) := by decide +kernel
theorem dX10_shape_54 : decode cX10_shape 54 = .ok (.iconst 0, 1) := by decide +kernel
theorem dX10_shape_55 : decode cX10_shape 55 = .ok (.iload_n 2, 1) := by decide +kernel
theorem dX10_shape_56 : decode cX10_shape 56 = .ok (.invokestatic 46, 3) := by decide +kernel
theorem dX10_shape_59 : decode cX10_shape 59 = .ok (.ifCond .eq 13, 3) := by decide +kernel
theorem dX10_shape_62 : decode cX10_shape 62 = .ok (.iload 6, 2) := by decide +kernel
theorem dX10_shape_64 : decode cX10_shape 64 = .ok (.iconst 0, 1) := by decide +kernel
theorem dX10_shape_65 : decode cX10_shape 65 = .ok (.iconst 3, 1) := by decide +kernel
theorem dX10_shape_66 : decode cX10_shape 66 = .ok (.invokestatic 46, 3) := by decide +kernel
theorem dX10_shape_69 : decode cX10_shape 69 = .ok (.ifCond .ne 6, 3) := by decide +kernel
theorem dX10_shape_72 : decode cX10_shape 72 = .ok (.ldc 117, 2) := by decide +kernel
theorem dX10_shape_74 : decode cX10_shape 74 = .ok (.ireturn, 1) := by decide +kernel
theorem dX10_shape_75 : decode cX10_shape 75 = .ok (.aload_n 0, 1) := by decide +kernel
theorem dX10_shape_76 : decode cX10_shape 76 = .ok (.invokevirtual 122, 3) := by decide +kernel
theorem dX10_shape_79 : decode cX10_shape 79 = .ok (.aload_n 0, 1) := by decide +kernel
theorem dX10_shape_80 : decode cX10_shape 80 = .ok (.iload_n 1, 1) := by decide +kernel
theorem dX10_shape_81 : decode cX10_shape 81 = .ok (.iconst 1, 1) := by decide +kernel
theorem dX10_shape_82 : decode cX10_shape 82 = .ok (.invokevirtual 77, 3) := by decide +kernel
theorem dX10_shape_85 : decode cX10_shape 85 = .ok (.invokestatic 84, 3) := by decide +kernel
theorem dX10_shape_88 : decode cX10_shape 88 = .ok (.istore 7, 2) := by decide +kernel
theorem dX10_shape_90 : decode cX10_shape 90 = .ok (.aload_n 0, 1) := by decide +kernel
theorem dX10_shape_91 : decode cX10_shape 91 = .ok (.iload_n 1, 1) := by decide +kernel
theorem dX10_shape_92 : decode cX10_shape 92 = .ok (.iconst 0, 1) := by decide +kernel
theorem dX10_shape_93 : decode cX10_shape 93 = .ok (.iload_n 2, 1) := by decide +kernel
theorem dX10_shape_94 : decode cX10_shape 94 = .ok (.invokevirtual 58, 3) := by decide +kernel
theorem dX10_shape_97 : decode cX10_shape 97 = .ok (.aload_n 0, 1) := by decide +kernel
theorem dX10_shape_98 : decode cX10_shape 98 = .ok (.iload_n 1, 1) := by decide +kernel
theorem dX10_shape_99 : decode cX10_shape 99 = .ok (.iconst 1, 1) := by decide +kernel
theorem dX10_shape_100 : decode cX10_shape 100 = .ok (.iload_n 3, 1) := by decide +kernel
theorem dX10_shape_101 : decode cX10_shape 101 = .ok (.invokevirtual 58, 3) := by decide +kernel
theorem dX10_shape_104 : decode cX10_shape 104 = .ok (.aload_n 0, 1) := by decide +kernel
theorem dX10_shape_105 : decode cX10_shape 105 = .ok (.iload_n 1, 1) := by decide +kernel
theorem dX10_shape_106 : decode cX10_shape 106 = .ok (.iconst 2, 1) := by decide +kernel
theorem dX10_shape_107 : decode cX10_shape 107 = .ok (.iload 4, 2) := by decide +kernel
theorem dX10_shape_109 : decode cX10_shape 109 = .ok (.invokevirtual 58, 3) := by decide +kernel
theorem dX10_shape_112 : decode cX10_shape 112 = .ok (.aload_n 0, 1) := by decide +kernel
theorem dX10_shape_113 : decode cX10_shape 113 = .ok (.iload_n 1, 1) := by decide +kernel
theorem dX10_shape_114 : decode cX10_shape 114 = .ok (.iconst 3, 1) := by decide +kernel
theorem dX10_shape_115 : decode cX10_shape 115 = .ok (.iload 5, 2) := by decide +kernel
theorem dX10_shape_117 : decode cX10_shape 117 = .ok (.invokevirtual 58, 3) := by decide +kernel
theorem dX10_shape_120 : decode cX10_shape 120 = .ok (.aload_n 0, 1) := by decide +kernel
theorem dX10_shape_121 : decode cX10_shape 121 = .ok (.iload_n 1, 1) := by decide +kernel
theorem dX10_shape_122 : decode cX10_shape 122 = .ok (.iconst 4, 1) := by decide +kernel
theorem dX10_shape_123 : decode cX10_shape 123 = .ok (.iload 6, 2) := by decide +kernel
theorem dX10_shape_125 : decode cX10_shape 125 = .ok (.invokevirtual 58, 3) := by decide +kernel
theorem dX10_shape_128 : decode cX10_shape 128 = .ok (.aload_n 0, 1) := by decide +kernel
theorem dX10_shape_129 : decode cX10_shape 129 = .ok (.iload_n 1, 1) := by decide +kernel
theorem dX10_shape_130 : decode cX10_shape 130 = .ok (.invokevirtual 66, 3) := by decide +kernel
theorem dX10_shape_133 : decode cX10_shape 133 = .ok (.iload 7, 2) := by decide +kernel
theorem dX10_shape_135 : decode cX10_shape 135 = .ok (.ireturn, 1) := by decide +kernel
theorem dX10_comes_0 : decode cX10_comes 0 = .ok (.aload_n 0, 1) := by decide +kernel
theorem dX10_comes_1 : decode cX10_comes 1 = .ok (.iload_n 1, 1) := by decide +kernel
theorem dX10_comes_2 : decode cX10_comes 2 = .ok (.invokevirtual 119, 3) := by decide +kernel
theorem dX10_comes_5 : decode cX10_comes 5 = .ok (.istore_n 2, 1) := by decide +kernel
theorem dX10_comes_6 : decode cX10_comes 6 = .ok (.aload_n 0, 1) := by decide +kernel
theorem dX10_comes_7 : decode cX10_comes 7 = .ok (.iload_n 1, 1) := by decide +kernel
theorem dX10_comes_8 : decode cX10_comes 8 = .ok (.bipush 6, 2) := by decide +kernel
theorem dX10_comes_10 : decode cX10_comes 10 = .ok (.aload_n 0, 1) := by decide +kernel
theorem dX10_comes_11 : decode cX10_comes 11 = .ok (.iload_n 1, 1) := by decide +kernel
theorem dX10_comes_12 : decode cX10_comes 12 = .ok (.bipush 6, 2) := by decide +kernel
theorem dX10_comes_14 : decode cX10_comes 14 = .ok (.invokevirtual 54, 3) := by decide +kernel
theorem dX10_comes_17 : decode cX10_comes 17 = .ok (.iconst 1, 1) := by decide +kernel
theorem dX10_comes_18 : decode cX10_comes 18 = .ok (.iadd, 1) := by decide +kernel
theorem dX10_comes_19 : decode cX10_comes 19 = .ok (.invokevirtual 58, 3) := by decide +kernel
theorem dX10_comes_22 : decode cX10_comes 22 = .ok (.iload_n 2, 1) := by decide +kernel
theorem dX10_comes_23 : decode cX10_comes 23 = .ok (.iconst (-1), 1) := by decide +kernel
theorem dX10_comes_24 : decode cX10_comes 24 = .ok (.if_icmp .ne 8, 3) := by decide +kernel
theorem dX10_comes_27 : decode cX10_comes 27 = .ok (.bipush 9, 2) := by decide +kernel
theorem dX10_comes_29 : decode cX10_comes 29 = .ok (.goto 18, 3) := by decide +kernel
theorem dX10_comes_32 : decode cX10_comes 32 = .ok (.iload_n 2, 1) := by decide +kernel
theorem dX10_comes_33 : decode cX10_comes 33 = .ok (.bipush 10, 2) := by decide +kernel
theorem dX10_comes_35 : decode cX10_comes 35 = .ok (.idiv, 1) := by decide +kernel
theorem dX10_comes_36 : decode cX10_comes 36 = .ok (.iload_n 1, 1) := by decide +kernel
theorem dX10_comes_37 : decode cX10_comes 37 = .ok (.if_icmp .ne 8, 3) := by decide +kernel
theorem dX10_comes_40 : decode cX10_comes 40 = .ok (.bipush 7, 2) := by decide +kernel
theorem dX10_comes_42 : decode cX10_comes 42 = .ok (.goto 5, 3) := by decide +kernel
theorem dX10_comes_45 : decode cX10_comes 45 = .ok (.bipush 8, 2) := by decide +kernel
theorem dX10_comes_47 : decode cX10_comes 47 = .ok (.istore_n 3, 1) := by decide +kernel
theorem dX10_comes_48 : decode cX10_comes 48 = .ok (.aload_n 0, 1) := by decide +kernel
theorem dX10_comes_49 : decode cX10_comes 49 = .ok (.iload_n 1, 1) := by decide +kernel
theorem dX10_comes_50 : decode cX10_comes 50 = .ok (.iload_n 3, 1) := by decide +kernel
theorem dX10_comes_51 : decode cX10_comes 51 = .ok (.aload_n 0, 1) := by decide +kernel
theorem dX10_comes_52 : decode cX10_comes 52 = .ok (.iload_n 1, 1) := by decide +kernel
theorem dX10_comes_53 : decode cX10_comes 53 = .ok (.iload_n 3, 1) := by decide +kernel
theorem dX10_comes_54 : decode cX10_comes 54 = .ok (.invokevirtual 54, 3) := by decide +kernel
theorem dX10_comes_57 : decode cX10_comes 57 = .ok (.iconst 1, 1) := by decide +kernel
theorem dX10_comes_58 : decode cX10_comes 58 = .ok (.iadd, 1) := by decide +kernel
theorem dX10_comes_59 : decode cX10_comes 59 = .ok (.invokevirtual 58, 3) := by decide +kernel
theorem dX10_comes_62 : decode cX10_comes 62 = .ok (.iload_n 2, 1) := by decide +kernel
theorem dX10_comes_63 : decode cX10_comes 63 = .ok (.iconst (-1), 1) := by decide +kernel
theorem dX10_comes_64 : decode cX10_comes 64 = .ok (.if_icmp .eq 37, 3) := by decide +kernel
theorem dX10_comes_67 : decode cX10_comes 67 = .ok (.aload_n 0, 1) := by decide +kernel
theorem dX10_comes_68 : decode cX10_comes 68 = .ok (.iload_n 2, 1) := by decide +kernel
theorem dX10_comes_69 : decode cX10_comes 69 = .ok (.bipush 10, 2) := by decide +kernel
theorem dX10_comes_71 : decode cX10_comes 71 = .ok (.idiv, 1) := by decide +kernel
theorem dX10_comes_72 : decode cX10_comes 72 = .ok (.iload_n 2, 1) := by decide +kernel
theorem dX10_comes_73 : decode cX10_comes 73 = .ok (.bipush 10, 2) := by decide +kernel
theorem dX10_comes_75 : decode cX10_comes 75 = .ok (.irem, 1) := by decide +kernel
theorem dX10_comes_76 : decode cX10_comes 76 = .ok (.iconst 1, 1) := by decide +kernel
theorem dX10_comes_77 : decode cX10_comes 77 = .ok (.aload_n 0, 1) := by decide +kernel
theorem dX10_comes_78 : decode cX10_comes 78 = .ok (.getfield 7, 3) := by decide +kernel
theorem dX10_comes_81 : decode cX10_comes 81 = .ok (.iconst 2, 1) := by decide +kernel
theorem dX10_comes_82 : decode cX10_comes 82 = .ok (.iaload, 1) := by decide +kernel
theorem dX10_comes_83 : decode cX10_comes 83 = .ok (.iload_n 1, 1) := by decide +kernel
theorem dX10_comes_84 : decode cX10_comes 84 = .ok (.iconst 0, 1) := by decide +kernel
theorem dX10_comes_85 : decode cX10_comes 85 = .ok (.invokevirtual 62, 3) := by decide +kernel
theorem dX10_comes_88 : decode cX10_comes 88 = .ok (.aload_n 0, 1) := by decide +kernel
theorem dX10_comes_89 : decode cX10_comes 89 = .ok (.iload_n 2, 1) := by decide +kernel
theorem dX10_comes_90 : decode cX10_comes 90 = .ok (.bipush 10, 2) := by decide +kernel
theorem dX10_comes_92 : decode cX10_comes 92 = .ok (.idiv, 1) := by decide +kernel
theorem dX10_comes_93 : decode cX10_comes 93 = .ok (.iconst 5, 1) := by decide +kernel
theorem dX10_comes_94 : decode cX10_comes 94 = .ok (.iload_n 2, 1) := by decide +kernel
theorem dX10_comes_95 : decode cX10_comes 95 = .ok (.bipush 10, 2) := by decide +kernel
theorem dX10_comes_97 : decode cX10_comes 97 = .ok (.irem, 1) := by decide +kernel
theorem dX10_comes_98 : decode cX10_comes 98 = .ok (.invokevirtual 58, 3) := by decide +kernel
theorem dX10_comes_101 : decode cX10_comes 101 = .ok (.aload_n 0, 1) := by decide +kernel
theorem dX10_comes_102 : decode cX10_comes 102 = .ok (.getfield 7, 3) := by decide +kernel
theorem dX10_comes_105 : decode cX10_comes 105 = .ok (.iconst 2, 1) := by decide +kernel
theorem dX10_comes_106 : decode cX10_comes 106 = .ok (.dup2, 1) := by decide +kernel
theorem dX10_comes_107 : decode cX10_comes 107 = .ok (.iaload, 1) := by decide +kernel
theorem dX10_comes_108 : decode cX10_comes 108 = .ok (.iconst 1, 1) := by decide +kernel
theorem dX10_comes_109 : decode cX10_comes 109 = .ok (.iadd, 1) := by decide +kernel
theorem dX10_comes_110 : decode cX10_comes 110 = .ok (.iastore, 1) := by decide +kernel
theorem dX10_comes_111 : decode cX10_comes 111 = .ok (.aload_n 0, 1) := by decide +kernel
theorem dX10_comes_112 : decode cX10_comes 112 = .ok (.getfield 7, 3) := by decide +kernel
theorem dX10_comes_115 : decode cX10_comes 115 = .ok (.iconst 1, 1) := by decide +kernel
theorem dX10_comes_116 : decode cX10_comes 116 = .ok (.dup2, 1) := by decide +kernel
theorem dX10_comes_117 : decode cX10_comes 117 = .ok (.iaload, 1) := by decide +kernel
theorem dX10_comes_118 : decode cX10_comes 118 = .ok (.iconst 1, 1) := by decide +kernel
theorem dX10_comes_119 : decode cX10_comes 119 = .ok (.iadd, 1) := by decide +kernel
theorem dX10_comes_120 : decode cX10_comes 120 = .ok (.iastore, 1) := by decide +kernel
theorem dX10_comes_121 : decode cX10_comes 121 = .ok (.iload_n 2, 1) := by decide +kernel
theorem dX10_comes_122 : decode cX10_comes 122 = .ok (.ireturn, 1) := by decide +kernel
theorem dX10_call_0 : decode cX10_call 0 = .ok (.aload_n 0, 1) := by decide +kernel
theorem dX10_call_1 : decode cX10_call 1 = .ok (.iload_n 1, 1) := by decide +kernel
theorem dX10_call_2 : decode cX10_call 2 = .ok (.invokevirtual 50, 3) := by decide +kernel
theorem dX10_call_5 : decode cX10_call 5 = .ok (.ifCond .ne 6, 3) := by decide +kernel
theorem dX10_call_8 : decode cX10_call 8 = .ok (.ldc 118, 2) := by decide +kernel
theorem dX10_call_10 : decode cX10_call 10 = .ok (.ireturn, 1) := by decide +kernel
theorem dX10_call_11 : decode cX10_call 11 = .ok (.aload_n 0, 1) := by decide +kernel
theorem dX10_call_12 : decode cX10_call 12 = .ok (.invokevirtual 122, 3) := by decide +kernel
theorem dX10_call_15 : decode cX10_call 15 = .ok (.aload_n 0, 1) := by decide +kernel
theorem dX10_call_16 : decode cX10_call 16 = .ok (.iload_n 1, 1) := by decide +kernel
theorem dX10_call_17 : decode cX10_call 17 = .ok (.invokevirtual 125, 3) := by decide +kernel
theorem dX10_call_20 : decode cX10_call 20 = .ok (.ireturn, 1) := by decide +kernel
theorem dX10_ends_0 : decode cX10_ends 0 = .ok (.aload_n 0, 1) := by decide +kernel
theorem dX10_ends_1 : decode cX10_ends 1 = .ok (.iload_n 1, 1) := by decide +kernel
theorem dX10_ends_2 : decode cX10_ends 2 = .ok (.iload_n 2, 1) := by decide +kernel
theorem dX10_ends_3 : decode cX10_ends 3 = .ok (.iconst 1, 1) := by decide +kernel
theorem dX10_ends_4 : decode cX10_ends 4 = .ok (.invokevirtual 73, 3) := by decide +kernel
theorem dX10_ends_7 : decode cX10_ends 7 = .ok (.istore_n 3, 1) := by decide +kernel
theorem dX10_ends_8 : decode cX10_ends 8 = .ok (.aload_n 0, 1) := by decide +kernel
theorem dX10_ends_9 : decode cX10_ends 9 = .ok (.getfield 7, 3) := by decide +kernel
theorem dX10_ends_12 : decode cX10_ends 12 = .ok (.iconst 1, 1) := by decide +kernel
theorem dX10_ends_13 : decode cX10_ends 13 = .ok (.dup2, 1) := by decide +kernel
theorem dX10_ends_14 : decode cX10_ends 14 = .ok (.iaload, 1) := by decide +kernel
theorem dX10_ends_15 : decode cX10_ends 15 = .ok (.iconst 1, 1) := by decide +kernel
theorem dX10_ends_16 : decode cX10_ends 16 = .ok (.iadd, 1) := by decide +kernel
theorem dX10_ends_17 : decode cX10_ends 17 = .ok (.iastore, 1) := by decide +kernel
theorem dX10_ends_18 : decode cX10_ends 18 = .ok (.aload_n 0, 1) := by decide +kernel
theorem dX10_ends_19 : decode cX10_ends 19 = .ok (.iload_n 1, 1) := by decide +kernel
theorem dX10_ends_20 : decode cX10_ends 20 = .ok (.iload_n 2, 1) := by decide +kernel
theorem dX10_ends_21 : decode cX10_ends 21 = .ok (.iconst 0, 1) := by decide +kernel
theorem dX10_ends_22 : decode cX10_ends 22 = .ok (.iconst (-1), 1) := by decide +kernel
theorem dX10_ends_23 : decode cX10_ends 23 = .ok (.iconst (-1), 1) := by decide +kernel
theorem dX10_ends_24 : decode cX10_ends 24 = .ok (.aload_n 0, 1) := by decide +kernel
theorem dX10_ends_25 : decode cX10_ends 25 = .ok (.getfield 7, 3) := by decide +kernel
theorem dX10_ends_28 : decode cX10_ends 28 = .ok (.iconst 1, 1) := by decide +kernel
theorem dX10_ends_29 : decode cX10_ends 29 = .ok (.iaload, 1) := by decide +kernel
theorem dX10_ends_30 : decode cX10_ends 30 = .ok (.invokevirtual 62, 3) := by decide +kernel
theorem dX10_ends_33 : decode cX10_ends 33 = .ok (.iload_n 3, 1) := by decide +kernel
theorem dX10_ends_34 : decode cX10_ends 34 = .ok (.ireturn, 1) := by decide +kernel
theorem dX10_end_0 : decode cX10_end 0 = .ok (.aload_n 0, 1) := by decide +kernel
theorem dX10_end_1 : decode cX10_end 1 = .ok (.iload_n 1, 1) := by decide +kernel
theorem dX10_end_2 : decode cX10_end 2 = .ok (.iload_n 2, 1) := by decide +kernel
theorem dX10_end_3 : decode cX10_end 3 = .ok (.invokevirtual 90, 3) := by decide +kernel
theorem dX10_end_6 : decode cX10_end 6 = .ok (.ifCond .ne 6, 3) := by decide +kernel
theorem dX10_end_9 : decode cX10_end 9 = .ok (.ldc 118, 2) := by decide +kernel
theorem dX10_end_11 : decode cX10_end 11 = .ok (.ireturn, 1) := by decide +kernel
theorem dX10_end_12 : decode cX10_end 12 = .ok (.aload_n 0, 1) := by decide +kernel
theorem dX10_end_13 : decode cX10_end 13 = .ok (.iload_n 1, 1) := by decide +kernel
theorem dX10_end_14 : decode cX10_end 14 = .ok (.iload_n 2, 1) := by decide +kernel
theorem dX10_end_15 : decode cX10_end 15 = .ok (.iconst 0, 1) := by decide +kernel
theorem dX10_end_16 : decode cX10_end 16 = .ok (.invokevirtual 73, 3) := by decide +kernel
theorem dX10_end_19 : decode cX10_end 19 = .ok (.iconst 1, 1) := by decide +kernel
theorem dX10_end_20 : decode cX10_end 20 = .ok (.if_icmp .eq 6, 3) := by decide +kernel
theorem dX10_end_23 : decode cX10_end 23 = .ok (.ldc 128, 2) := by decide +kernel
theorem dX10_end_25 : decode cX10_end 25 = .ok (.ireturn, 1) := by decide +kernel
theorem dX10_end_26 : decode cX10_end 26 = .ok (.aload_n 0, 1) := by decide +kernel
theorem dX10_end_27 : decode cX10_end 27 = .ok (.invokevirtual 122, 3) := by decide +kernel
theorem dX10_end_30 : decode cX10_end 30 = .ok (.aload_n 0, 1) := by decide +kernel
theorem dX10_end_31 : decode cX10_end 31 = .ok (.iload_n 1, 1) := by decide +kernel
theorem dX10_end_32 : decode cX10_end 32 = .ok (.iload_n 2, 1) := by decide +kernel
theorem dX10_end_33 : decode cX10_end 33 = .ok (.invokevirtual 129, 3) := by decide +kernel
theorem dX10_end_36 : decode cX10_end 36 = .ok (.ireturn, 1) := by decide +kernel
theorem dX10_damage_0 : decode cX10_damage 0 = .ok (.aload_n 0, 1) := by decide +kernel
theorem dX10_damage_1 : decode cX10_damage 1 = .ok (.iload_n 1, 1) := by decide +kernel
theorem dX10_damage_2 : decode cX10_damage 2 = .ok (.iload_n 2, 1) := by decide +kernel
theorem dX10_damage_3 : decode cX10_damage 3 = .ok (.invokevirtual 90, 3) := by decide +kernel
theorem dX10_damage_6 : decode cX10_damage 6 = .ok (.ifCond .ne 6, 3) := by decide +kernel
theorem dX10_damage_9 : decode cX10_damage 9 = .ok (.ldc 118, 2) := by decide +kernel
theorem dX10_damage_11 : decode cX10_damage 11 = .ok (.ireturn, 1) := by decide +kernel
theorem dX10_damage_12 : decode cX10_damage 12 = .ok (.aload_n 0, 1) := by decide +kernel
theorem dX10_damage_13 : decode cX10_damage 13 = .ok (.iload_n 1, 1) := by decide +kernel
theorem dX10_damage_14 : decode cX10_damage 14 = .ok (.iload_n 2, 1) := by decide +kernel
theorem dX10_damage_15 : decode cX10_damage 15 = .ok (.iconst 0, 1) := by decide +kernel
theorem dX10_damage_16 : decode cX10_damage 16 = .ok (.invokevirtual 73, 3) := by decide +kernel
theorem dX10_damage_19 : decode cX10_damage 19 = .ok (.iconst 2, 1) := by decide +kernel
theorem dX10_damage_20 : decode cX10_damage 20 = .ok (.if_icmp .ne 6, 3) := by decide +kernel
theorem dX10_damage_23 : decode cX10_damage 23 = .ok (.ldc 128, 2) := by decide +kernel
theorem dX10_damage_25 : decode cX10_damage 25 = .ok (.ireturn, 1) := by decide +kernel
theorem dX10_damage_26 : decode cX10_damage 26 = .ok (.aload_n 0, 1) := by decide +kernel
theorem dX10_damage_27 : decode cX10_damage 27 = .ok (.invokevirtual 122, 3) := by decide +kernel
theorem dX10_damage_30 : decode cX10_damage 30 = .ok (.aload_n 0, 1) := by decide +kernel
theorem dX10_damage_31 : decode cX10_damage 31 = .ok (.iload_n 1, 1) := by decide +kernel
theorem dX10_damage_32 : decode cX10_damage 32 = .ok (.iload_n 2, 1) := by decide +kernel
theorem dX10_damage_33 : decode cX10_damage 33 = .ok (.iconst 1, 1) := by decide +kernel
theorem dX10_damage_34 : decode cX10_damage 34 = .ok (.invokevirtual 73, 3) := by decide +kernel
theorem dX10_damage_37 : decode cX10_damage 37 = .ok (.istore_n 3, 1) := by decide +kernel
theorem dX10_damage_38 : decode cX10_damage 38 = .ok (.aload_n 0, 1) := by decide +kernel
theorem dX10_damage_39 : decode cX10_damage 39 = .ok (.iload_n 1, 1) := by decide +kernel
theorem dX10_damage_40 : decode cX10_damage 40 = .ok (.iload_n 2, 1) := by decide +kernel
theorem dX10_damage_41 : decode cX10_damage 41 = .ok (.iconst 2, 1) := by decide +kernel
theorem dX10_damage_42 : decode cX10_damage 42 = .ok (.invokevirtual 73, 3) := by decide +kernel
theorem dX10_damage_45 : decode cX10_damage 45 = .ok (.istore 4, 2) := by decide +kernel
theorem dX10_damage_47 : decode cX10_damage 47 = .ok (.iload 4, 2) := by decide +kernel
theorem dX10_damage_49 : decode cX10_damage 49 = .ok (.iconst (-1), 1) := by decide +kernel
theorem dX10_damage_50 : decode cX10_damage 50 = .ok (.if_icmp .eq 21, 3) := by decide +kernel
theorem dX10_damage_53 : decode cX10_damage 53 = .ok (.aload_n 0, 1) := by decide +kernel
theorem dX10_damage_54 : decode cX10_damage 54 = .ok (.iload 4, 2) := by decide +kernel
theorem dX10_damage_56 : decode cX10_damage 56 = .ok (.bipush 9, 2) := by decide +kernel
theorem dX10_damage_58 : decode cX10_damage 58 = .ok (.aload_n 0, 1) := by decide +kernel
theorem dX10_damage_59 : decode cX10_damage 59 = .ok (.iload 4, 2) := by decide +kernel
theorem dX10_damage_61 : decode cX10_damage 61 = .ok (.bipush 9, 2) := by decide +kernel
theorem dX10_damage_63 : decode cX10_damage 63 = .ok (.invokevirtual 54, 3) := by decide +kernel
theorem dX10_damage_66 : decode cX10_damage 66 = .ok (.iconst 1, 1) := by decide +kernel
theorem dX10_damage_67 : decode cX10_damage 67 = .ok (.iadd, 1) := by decide +kernel
theorem dX10_damage_68 : decode cX10_damage 68 = .ok (.invokevirtual 58, 3) := by decide +kernel
theorem dX10_damage_71 : decode cX10_damage 71 = .ok (.aload_n 0, 1) := by decide +kernel
theorem dX10_damage_72 : decode cX10_damage 72 = .ok (.getfield 7, 3) := by decide +kernel
theorem dX10_damage_75 : decode cX10_damage 75 = .ok (.iconst 1, 1) := by decide +kernel
theorem dX10_damage_76 : decode cX10_damage 76 = .ok (.dup2, 1) := by decide +kernel
theorem dX10_damage_77 : decode cX10_damage 77 = .ok (.iaload, 1) := by decide +kernel
theorem dX10_damage_78 : decode cX10_damage 78 = .ok (.iconst 1, 1) := by decide +kernel
theorem dX10_damage_79 : decode cX10_damage 79 = .ok (.iadd, 1) := by decide +kernel
theorem dX10_damage_80 : decode cX10_damage 80 = .ok (.iastore, 1) := by decide +kernel
theorem dX10_damage_81 : decode cX10_damage 81 = .ok (.aload_n 0, 1) := by decide +kernel
theorem dX10_damage_82 : decode cX10_damage 82 = .ok (.iload_n 1, 1) := by decide +kernel
theorem dX10_damage_83 : decode cX10_damage 83 = .ok (.iload_n 2, 1) := by decide +kernel
theorem dX10_damage_84 : decode cX10_damage 84 = .ok (.iconst 2, 1) := by decide +kernel
theorem dX10_damage_85 : decode cX10_damage 85 = .ok (.iconst (-1), 1) := by decide +kernel
theorem dX10_damage_86 : decode cX10_damage 86 = .ok (.iconst (-1), 1) := by decide +kernel
theorem dX10_damage_87 : decode cX10_damage 87 = .ok (.iconst 0, 1) := by decide +kernel
theorem dX10_damage_88 : decode cX10_damage 88 = .ok (.invokevirtual 62, 3) := by decide +kernel
theorem dX10_damage_91 : decode cX10_damage 91 = .ok (.iload_n 3, 1) := by decide +kernel
theorem dX10_damage_92 : decode cX10_damage 92 = .ok (.ireturn, 1) := by decide +kernel
theorem dX10_mend_0 : decode cX10_mend 0 = .ok (.aload_n 0, 1) := by decide +kernel
theorem dX10_mend_1 : decode cX10_mend 1 = .ok (.iload_n 1, 1) := by decide +kernel
theorem dX10_mend_2 : decode cX10_mend 2 = .ok (.iload_n 2, 1) := by decide +kernel
theorem dX10_mend_3 : decode cX10_mend 3 = .ok (.invokevirtual 90, 3) := by decide +kernel
theorem dX10_mend_6 : decode cX10_mend 6 = .ok (.ifCond .ne 6, 3) := by decide +kernel
theorem dX10_mend_9 : decode cX10_mend 9 = .ok (.ldc 118, 2) := by decide +kernel
theorem dX10_mend_11 : decode cX10_mend 11 = .ok (.ireturn, 1) := by decide +kernel
theorem dX10_mend_12 : decode cX10_mend 12 = .ok (.aload_n 0, 1) := by decide +kernel
theorem dX10_mend_13 : decode cX10_mend 13 = .ok (.iload_n 1, 1) := by decide +kernel
theorem dX10_mend_14 : decode cX10_mend 14 = .ok (.iload_n 2, 1) := by decide +kernel
theorem dX10_mend_15 : decode cX10_mend 15 = .ok (.iconst 0, 1) := by decide +kernel
theorem dX10_mend_16 : decode cX10_mend 16 = .ok (.invokevirtual 73, 3) := by decide +kernel
theorem dX10_mend_19 : decode cX10_mend 19 = .ok (.iconst 2, 1) := by decide +kernel
theorem dX10_mend_20 : decode cX10_mend 20 = .ok (.if_icmp .eq 6, 3) := by decide +kernel
theorem dX10_mend_23 : decode cX10_mend 23 = .ok (.ldc 128, 2) := by decide +kernel
theorem dX10_mend_25 : decode cX10_mend 25 = .ok (.ireturn, 1) := by decide +kernel
theorem dX10_mend_26 : decode cX10_mend 26 = .ok (.aload_n 0, 1) := by decide +kernel
theorem dX10_mend_27 : decode cX10_mend 27 = .ok (.invokevirtual 122, 3) := by decide +kernel
theorem dX10_mend_30 : decode cX10_mend 30 = .ok (.aload_n 0, 1) := by decide +kernel
theorem dX10_mend_31 : decode cX10_mend 31 = .ok (.getfield 7, 3) := by decide +kernel
theorem dX10_mend_34 : decode cX10_mend 34 = .ok (.iconst 1, 1) := by decide +kernel
theorem dX10_mend_35 : decode cX10_mend 35 = .ok (.dup2, 1) := by decide +kernel
theorem dX10_mend_36 : decode cX10_mend 36 = .ok (.iaload, 1) := by decide +kernel
theorem dX10_mend_37 : decode cX10_mend 37 = .ok (.iconst 1, 1) := by decide +kernel
theorem dX10_mend_38 : decode cX10_mend 38 = .ok (.iadd, 1) := by decide +kernel
theorem dX10_mend_39 : decode cX10_mend 39 = .ok (.iastore, 1) := by decide +kernel
theorem dX10_mend_40 : decode cX10_mend 40 = .ok (.aload_n 0, 1) := by decide +kernel
theorem dX10_mend_41 : decode cX10_mend 41 = .ok (.iload_n 1, 1) := by decide +kernel
theorem dX10_mend_42 : decode cX10_mend 42 = .ok (.iload_n 2, 1) := by decide +kernel
theorem dX10_mend_43 : decode cX10_mend 43 = .ok (.iconst 0, 1) := by decide +kernel
theorem dX10_mend_44 : decode cX10_mend 44 = .ok (.iconst (-1), 1) := by decide +kernel
theorem dX10_mend_45 : decode cX10_mend 45 = .ok (.iconst (-1), 1) := by decide +kernel
theorem dX10_mend_46 : decode cX10_mend 46 = .ok (.aload_n 0, 1) := by decide +kernel
theorem dX10_mend_47 : decode cX10_mend 47 = .ok (.getfield 7, 3) := by decide +kernel
theorem dX10_mend_50 : decode cX10_mend 50 = .ok (.iconst 1, 1) := by decide +kernel
theorem dX10_mend_51 : decode cX10_mend 51 = .ok (.iaload, 1) := by decide +kernel
theorem dX10_mend_52 : decode cX10_mend 52 = .ok (.invokevirtual 62, 3) := by decide +kernel
theorem dX10_mend_55 : decode cX10_mend 55 = .ok (.aload_n 0, 1) := by decide +kernel
theorem dX10_mend_56 : decode cX10_mend 56 = .ok (.iload_n 1, 1) := by decide +kernel
theorem dX10_mend_57 : decode cX10_mend 57 = .ok (.iconst 0, 1) := by decide +kernel
theorem dX10_mend_58 : decode cX10_mend 58 = .ok (.invokevirtual 77, 3) := by decide +kernel
theorem dX10_mend_61 : decode cX10_mend 61 = .ok (.invokestatic 84, 3) := by decide +kernel
theorem dX10_mend_64 : decode cX10_mend 64 = .ok (.ireturn, 1) := by decide +kernel
theorem dX10_drawOf_0 : decode cX10_drawOf 0 = .ok (.aload_n 0, 1) := by decide +kernel
theorem dX10_drawOf_1 : decode cX10_drawOf 1 = .ok (.aload_n 0, 1) := by decide +kernel
theorem dX10_drawOf_2 : decode cX10_drawOf 2 = .ok (.getfield 132, 3) := by decide +kernel
theorem dX10_drawOf_5 : decode cX10_drawOf 5 = .ok (.ldc2_w 136, 3) := by decide +kernel
theorem dX10_drawOf_8 : decode cX10_drawOf 8 = .ok (.lmul, 1) := by decide +kernel
theorem dX10_drawOf_9 : decode cX10_drawOf 9 = .ok (.ldc2_w 138, 3) := by decide +kernel
theorem dX10_drawOf_12 : decode cX10_drawOf 12 = .ok (.ladd, 1) := by decide +kernel
theorem dX10_drawOf_13 : decode cX10_drawOf 13 = .ok (.ldc2_w 140, 3) := by decide +kernel
theorem dX10_drawOf_16 : decode cX10_drawOf 16 = .ok (.lrem, 1) := by decide +kernel
theorem dX10_drawOf_17 : decode cX10_drawOf 17 = .ok (.putfield 132, 3) := by decide +kernel
theorem dX10_drawOf_20 : decode cX10_drawOf 20 = .ok (.aload_n 0, 1) := by decide +kernel
theorem dX10_drawOf_21 : decode cX10_drawOf 21 = .ok (.getfield 132, 3) := by decide +kernel
theorem dX10_drawOf_24 : decode cX10_drawOf 24 = .ok (.ldc2_w 142, 3) := by decide +kernel
theorem dX10_drawOf_27 : decode cX10_drawOf 27 = .ok (.ldiv, 1) := by decide +kernel
theorem dX10_drawOf_28 : decode cX10_drawOf 28 = .ok (.iload_n 1, 1) := by decide +kernel
theorem dX10_drawOf_29 : decode cX10_drawOf 29 = .ok (.i2l, 1) := by decide +kernel
theorem dX10_drawOf_30 : decode cX10_drawOf 30 = .ok (.lrem, 1) := by decide +kernel
theorem dX10_drawOf_31 : decode cX10_drawOf 31 = .ok (.l2i, 1) := by decide +kernel
theorem dX10_drawOf_32 : decode cX10_drawOf 32 = .ok (.ireturn, 1) := by decide +kernel
theorem dX10_drift_0 : decode cX10_drift 0 = .ok (.iload_n 1, 1) := by decide +kernel
theorem dX10_drift_1 : decode cX10_drift 1 = .ok (.iconst 1, 1) := by decide +kernel
theorem dX10_drift_2 : decode cX10_drift 2 = .ok (.bipush 20, 2) := by decide +kernel
theorem dX10_drift_4 : decode cX10_drift 4 = .ok (.invokestatic 46, 3) := by decide +kernel
theorem dX10_drift_7 : decode cX10_drift 7 = .ok (.ifCond .ne 6, 3) := by decide +kernel
theorem dX10_drift_10 : decode cX10_drift 10 = .ok (.ldc 117, 2) := by decide +kernel
theorem dX10_drift_12 : decode cX10_drift 12 = .ok (.ireturn, 1) := by decide +kernel
theorem dX10_drift_13 : decode cX10_drift 13 = .ok (.iconst 0, 1) := by decide +kernel
theorem dX10_drift_14 : decode cX10_drift 14 = .ok (.istore_n 2, 1) := by decide +kernel
theorem dX10_drift_15 : decode cX10_drift 15 = .ok (.iload_n 2, 1) := by decide +kernel
theorem dX10_drift_16 : decode cX10_drift 16 = .ok (.iload_n 1, 1) := by decide +kernel
theorem dX10_drift_17 : decode cX10_drift 17 = .ok (.if_icmp .ge 81, 3) := by decide +kernel
theorem dX10_drift_20 : decode cX10_drift 20 = .ok (.aload_n 0, 1) := by decide +kernel
theorem dX10_drift_21 : decode cX10_drift 21 = .ok (.invokevirtual 122, 3) := by decide +kernel
theorem dX10_drift_24 : decode cX10_drift 24 = .ok (.aload_n 0, 1) := by decide +kernel
theorem dX10_drift_25 : decode cX10_drift 25 = .ok (.iconst 5, 1) := by decide +kernel
theorem dX10_drift_26 : decode cX10_drift 26 = .ok (.invokevirtual 144, 3) := by decide +kernel
theorem dX10_drift_29 : decode cX10_drift 29 = .ok (.istore_n 3, 1) := by decide +kernel
theorem dX10_drift_30 : decode cX10_drift 30 = .ok (.aload_n 0, 1) := by decide +kernel
theorem dX10_drift_31 : decode cX10_drift 31 = .ok (.aload_n 0, 1) := by decide +kernel
theorem dX10_drift_32 : decode cX10_drift 32 = .ok (.getfield 7, 3) := by decide +kernel
theorem dX10_drift_35 : decode cX10_drift 35 = .ok (.iconst 0, 1) := by decide +kernel
theorem dX10_drift_36 : decode cX10_drift 36 = .ok (.iaload, 1) := by decide +kernel
theorem dX10_drift_37 : decode cX10_drift 37 = .ok (.invokevirtual 144, 3) := by decide +kernel
theorem dX10_drift_40 : decode cX10_drift 40 = .ok (.istore 4, 2) := by decide +kernel
theorem dX10_drift_42 : decode cX10_drift 42 = .ok (.iload_n 3, 1) := by decide +kernel
theorem dX10_drift_43 : decode cX10_drift 43 = .ok (.iconst 3, 1) := by decide +kernel
theorem dX10_drift_44 : decode cX10_drift 44 = .ok (.if_icmp .ge 13, 3) := by decide +kernel
theorem dX10_drift_47 : decode cX10_drift 47 = .ok (.aload_n 0, 1) := by decide +kernel
theorem dX10_drift_48 : decode cX10_drift 48 = .ok (.iload 4, 2) := by decide +kernel
theorem dX10_drift_50 : decode cX10_drift 50 = .ok (.invokevirtual 125, 3) := by decide +kernel
theorem dX10_drift_53 : decode cX10_drift 53 = .ok (.pop, 1) := by decide +kernel
theorem dX10_drift_54 : decode cX10_drift 54 = .ok (.goto 38, 3) := by decide +kernel
theorem dX10_drift_57 : decode cX10_drift 57 = .ok (.aload_n 0, 1) := by decide +kernel
theorem dX10_drift_58 : decode cX10_drift 58 = .ok (.aload_n 0, 1) := by decide +kernel
theorem dX10_drift_59 : decode cX10_drift 59 = .ok (.iload 4, 2) := by decide +kernel
theorem dX10_drift_61 : decode cX10_drift 61 = .ok (.iconst 0, 1) := by decide +kernel
theorem dX10_drift_62 : decode cX10_drift 62 = .ok (.invokevirtual 54, 3) := by decide +kernel
theorem dX10_drift_65 : decode cX10_drift 65 = .ok (.invokevirtual 144, 3) := by decide +kernel
theorem dX10_drift_68 : decode cX10_drift 68 = .ok (.istore 5, 2) := by decide +kernel
theorem dX10_drift_70 : decode cX10_drift 70 = .ok (.aload_n 0, 1) := by decide +kernel
theorem dX10_drift_71 : decode cX10_drift 71 = .ok (.iload 4, 2) := by decide +kernel
theorem dX10_drift_73 : decode cX10_drift 73 = .ok (.iload 5, 2) := by decide +kernel
theorem dX10_drift_75 : decode cX10_drift 75 = .ok (.iconst 0, 1) := by decide +kernel
theorem dX10_drift_76 : decode cX10_drift 76 = .ok (.invokevirtual 73, 3) := by decide +kernel
theorem dX10_drift_79 : decode cX10_drift 79 = .ok (.iconst 1, 1) := by decide +kernel
theorem dX10_drift_80 : decode cX10_drift 80 = .ok (.if_icmp .ne 12, 3) := by decide +kernel
theorem dX10_drift_83 : decode cX10_drift 83 = .ok (.aload_n 0, 1) := by decide +kernel
theorem dX10_drift_84 : decode cX10_drift 84 = .ok (.iload 4, 2) := by decide +kernel
theorem dX10_drift_86 : decode cX10_drift 86 = .ok (.iload 5, 2) := by decide +kernel
theorem dX10_drift_88 : decode cX10_drift 88 = .ok (.invokevirtual 129, 3) := by decide +kernel
theorem dX10_drift_91 : decode cX10_drift 91 = .ok (.pop, 1) := by decide +kernel
theorem dX10_drift_92 : decode cX10_drift 92 = .ok (.iinc 2 1, 3) := by decide +kernel
theorem dX10_drift_95 : decode cX10_drift 95 = .ok (.goto (-80), 3) := by decide +kernel
theorem dX10_drift_98 : decode cX10_drift 98 = .ok (.aload_n 0, 1) := by decide +kernel
theorem dX10_drift_99 : decode cX10_drift 99 = .ok (.invokevirtual 104, 3) := by decide +kernel
theorem dX10_drift_102 : decode cX10_drift 102 = .ok (.ireturn, 1) := by decide +kernel
theorem dX10_undo_0 : decode cX10_undo 0 = .ok (.iload_n 1, 1) := by decide +kernel
theorem dX10_undo_1 : decode cX10_undo 1 = .ok (.iconst 1, 1) := by decide +kernel
theorem dX10_undo_2 : decode cX10_undo 2 = .ok (.bipush 20, 2) := by decide +kernel
theorem dX10_undo_4 : decode cX10_undo 4 = .ok (.invokestatic 46, 3) := by decide +kernel
theorem dX10_undo_7 : decode cX10_undo 7 = .ok (.ifCond .ne 6, 3) := by decide +kernel
theorem dX10_undo_10 : decode cX10_undo 10 = .ok (.ldc 117, 2) := by decide +kernel
theorem dX10_undo_12 : decode cX10_undo 12 = .ok (.ireturn, 1) := by decide +kernel
theorem dX10_undo_13 : decode cX10_undo 13 = .ok (.iload_n 1, 1) := by decide +kernel
theorem dX10_undo_14 : decode cX10_undo 14 = .ok (.aload_n 0, 1) := by decide +kernel
theorem dX10_undo_15 : decode cX10_undo 15 = .ok (.getfield 69, 3) := by decide +kernel
theorem dX10_undo_18 : decode cX10_undo 18 = .ok (.if_icmp .le 6, 3) := by decide +kernel
theorem dX10_undo_21 : decode cX10_undo 21 = .ok (.ldc 128, 2) := by decide +kernel
theorem dX10_undo_23 : decode cX10_undo 23 = .ok (.ireturn, 1) := by decide +kernel
theorem dX10_undo_24 : decode cX10_undo 24 = .ok (.aload_n 0, 1) := by decide +kernel
theorem dX10_undo_25 : decode cX10_undo 25 = .ok (.dup, 1) := by decide +kernel
theorem dX10_undo_26 : decode cX10_undo 26 = .ok (.getfield 69, 3) := by decide +kernel
theorem dX10_undo_29 : decode cX10_undo 29 = .ok (.iload_n 1, 1) := by decide +kernel
theorem dX10_undo_30 : decode cX10_undo 30 = .ok (.isub, 1) := by decide +kernel
theorem dX10_undo_31 : decode cX10_undo 31 = .ok (.putfield 69, 3) := by decide +kernel
theorem dX10_undo_34 : decode cX10_undo 34 = .ok (.iconst 0, 1) := by decide +kernel
theorem dX10_undo_35 : decode cX10_undo 35 = .ok (.istore_n 2, 1) := by decide +kernel
theorem dX10_undo_36 : decode cX10_undo 36 = .ok (.iload_n 2, 1) := by decide +kernel
theorem dX10_undo_37 : decode cX10_undo 37 = .ok (.sipush 139, 3) := by decide +kernel
theorem dX10_undo_40 : decode cX10_undo 40 = .ok (.if_icmp .ge 30, 3) := by decide +kernel
theorem dX10_undo_43 : decode cX10_undo 43 = .ok (.aload_n 0, 1) := by decide +kernel
theorem dX10_undo_44 : decode cX10_undo 44 = .ok (.getfield 7, 3) := by decide +kernel
theorem dX10_undo_47 : decode cX10_undo 47 = .ok (.iload_n 2, 1) := by decide +kernel
theorem dX10_undo_48 : decode cX10_undo 48 = .ok (.aload_n 0, 1) := by decide +kernel
theorem dX10_undo_49 : decode cX10_undo 49 = .ok (.getfield 13, 3) := by decide +kernel
theorem dX10_undo_52 : decode cX10_undo 52 = .ok (.sipush 139, 3) := by decide +kernel
theorem dX10_undo_55 : decode cX10_undo 55 = .ok (.aload_n 0, 1) := by decide +kernel
theorem dX10_undo_56 : decode cX10_undo 56 = .ok (.getfield 69, 3) := by decide +kernel
theorem dX10_undo_59 : decode cX10_undo 59 = .ok (.imul, 1) := by decide +kernel
theorem dX10_undo_60 : decode cX10_undo 60 = .ok (.iload_n 2, 1) := by decide +kernel
theorem dX10_undo_61 : decode cX10_undo 61 = .ok (.iadd, 1) := by decide +kernel
theorem dX10_undo_62 : decode cX10_undo 62 = .ok (.iaload, 1) := by decide +kernel
theorem dX10_undo_63 : decode cX10_undo 63 = .ok (.iastore, 1) := by decide +kernel
theorem dX10_undo_64 : decode cX10_undo 64 = .ok (.iinc 2 1, 3) := by decide +kernel
theorem dX10_undo_67 : decode cX10_undo 67 = .ok (.goto (-31), 3) := by decide +kernel
theorem dX10_undo_70 : decode cX10_undo 70 = .ok (.aload_n 0, 1) := by decide +kernel
theorem dX10_undo_71 : decode cX10_undo 71 = .ok (.getfield 7, 3) := by decide +kernel
theorem dX10_undo_74 : decode cX10_undo 74 = .ok (.iconst 1, 1) := by decide +kernel
theorem dX10_undo_75 : decode cX10_undo 75 = .ok (.iaload, 1) := by decide +kernel
theorem dX10_undo_76 : decode cX10_undo 76 = .ok (.ireturn, 1) := by decide +kernel
theorem dX10_weighs_0 : decode cX10_weighs 0 = .ok (.lconst 1, 1) := by decide +kernel
theorem dX10_weighs_1 : decode cX10_weighs 1 = .ok (.lstore 5, 2) := by decide +kernel
theorem dX10_weighs_3 : decode cX10_weighs 3 = .ok (.iconst 2, 1) := by decide +kernel
theorem dX10_weighs_4 : decode cX10_weighs 4 = .ok (.istore 7, 2) := by decide +kernel
theorem dX10_weighs_6 : decode cX10_weighs 6 = .ok (.iload 7, 2) := by decide +kernel
theorem dX10_weighs_8 : decode cX10_weighs 8 = .ok (.iload_n 1, 1) := by decide +kernel
theorem dX10_weighs_9 : decode cX10_weighs 9 = .ok (.if_icmp .gt 17, 3) := by decide +kernel
theorem dX10_weighs_12 : decode cX10_weighs 12 = .ok (.lload 5, 2) := by decide +kernel
theorem dX10_weighs_14 : decode cX10_weighs 14 = .ok (.iload 7, 2) := by decide +kernel
theorem dX10_weighs_16 : decode cX10_weighs 16 = .ok (.i2l, 1) := by decide +kernel
theorem dX10_weighs_17 : decode cX10_weighs 17 = .ok (.lmul, 1) := by decide +kernel
theorem dX10_weighs_18 : decode cX10_weighs 18 = .ok (.lstore 5, 2) := by decide +kernel
theorem dX10_weighs_20 : decode cX10_weighs 20 = .ok (.iinc 7 1, 3) := by decide +kernel
theorem dX10_weighs_23 : decode cX10_weighs 23 = .ok (.goto (-17), 3) := by decide +kernel
theorem dX10_weighs_26 : decode cX10_weighs 26 = .ok (.aload_n 0, 1) := by decide +kernel
theorem dX10_weighs_27 : decode cX10_weighs 27 = .ok (.lconst 0, 1) := by decide +kernel
theorem dX10_weighs_28 : decode cX10_weighs 28 = .ok (.putfield 147, 3) := by decide +kernel
theorem dX10_weighs_31 : decode cX10_weighs 31 = .ok (.iconst 0, 1) := by decide +kernel
theorem dX10_weighs_32 : decode cX10_weighs 32 = .ok (.istore 7, 2) := by decide +kernel
theorem dX10_weighs_34 : decode cX10_weighs 34 = .ok (.iload 7, 2) := by decide +kernel
theorem dX10_weighs_36 : decode cX10_weighs 36 = .ok (.iload_n 1, 1) := by decide +kernel
theorem dX10_weighs_37 : decode cX10_weighs 37 = .ok (.if_icmp .gt 57, 3) := by decide +kernel
theorem dX10_weighs_40 : decode cX10_weighs 40 = .ok (.aload_n 0, 1) := by decide +kernel
theorem dX10_weighs_41 : decode cX10_weighs 41 = .ok (.getfield 30, 3) := by decide +kernel
theorem dX10_weighs_44 : decode cX10_weighs 44 = .ok (.iload 7, 2) := by decide +kernel
theorem dX10_weighs_46 : decode cX10_weighs 46 = .ok (.lload 5, 2) := by decide +kernel
theorem dX10_weighs_48 : decode cX10_weighs 48 = .ok (.lastore, 1) := by decide +kernel
theorem dX10_weighs_49 : decode cX10_weighs 49 = .ok (.aload_n 0, 1) := by decide +kernel
theorem dX10_weighs_50 : decode cX10_weighs 50 = .ok (.dup, 1) := by decide +kernel
theorem dX10_weighs_51 : decode cX10_weighs 51 = .ok (.getfield 147, 3) := by decide +kernel
theorem dX10_weighs_54 : decode cX10_weighs 54 = .ok (.lload 5, 2) := by decide +kernel
theorem dX10_weighs_56 : decode cX10_weighs 56 = .ok (.ladd, 1) := by decide +kernel
theorem dX10_weighs_57 : decode cX10_weighs 57 = .ok (.putfield 147, 3) := by decide +kernel
theorem dX10_weighs_60 : decode cX10_weighs 60 = .ok (.lload 5, 2) := by decide +kernel
theorem dX10_weighs_62 : decode cX10_weighs 62 = .ok (.iload_n 2, 1) := by decide +kernel
theorem dX10_weighs_63 : decode cX10_weighs 63 = .ok (.iload_n 1, 1) := by decide +kernel
theorem dX10_weighs_64 : decode cX10_weighs 64 = .ok (.iload 7, 2) := by decide +kernel
theorem dX10_weighs_66 : decode cX10_weighs 66 = .ok (.isub, 1) := by decide +kernel
theorem dX10_weighs_67 : decode cX10_weighs 67 = .ok (.iload_n 3, 1) := by decide +kernel
theorem dX10_weighs_68 : decode cX10_weighs 68 = .ok (.if_icmp .le 8, 3) := by decide +kernel
theorem dX10_weighs_71 : decode cX10_weighs 71 = .ok (.iload 4, 2) := by decide +kernel
theorem dX10_weighs_73 : decode cX10_weighs 73 = .ok (.goto 4, 3) := by decide +kernel
theorem dX10_weighs_76 : decode cX10_weighs 76 = .ok (.iconst 0, 1) := by decide +kernel
theorem dX10_weighs_77 : decode cX10_weighs 77 = .ok (.iadd, 1) := by decide +kernel
theorem dX10_weighs_78 : decode cX10_weighs 78 = .ok (.i2l, 1) := by decide +kernel
theorem dX10_weighs_79 : decode cX10_weighs 79 = .ok (.lmul, 1) := by decide +kernel
theorem dX10_weighs_80 : decode cX10_weighs 80 = .ok (.iload 7, 2) := by decide +kernel
theorem dX10_weighs_82 : decode cX10_weighs 82 = .ok (.iconst 1, 1) := by decide +kernel
theorem dX10_weighs_83 : decode cX10_weighs 83 = .ok (.iadd, 1) := by decide +kernel
theorem dX10_weighs_84 : decode cX10_weighs 84 = .ok (.i2l, 1) := by decide +kernel
theorem dX10_weighs_85 : decode cX10_weighs 85 = .ok (.ldiv, 1) := by decide +kernel
theorem dX10_weighs_86 : decode cX10_weighs 86 = .ok (.lstore 5, 2) := by decide +kernel
theorem dX10_weighs_88 : decode cX10_weighs 88 = .ok (.iinc 7 1, 3) := by decide +kernel
theorem dX10_weighs_91 : decode cX10_weighs 91 = .ok (.goto (-57), 3) := by decide +kernel
theorem dX10_weighs_94 : decode cX10_weighs 94 = .ok (.return_, 1) := by decide +kernel
theorem dX10_gcd_0 : decode cX10_gcd 0 = .ok (.lload_n 0, 1) := by decide +kernel
theorem dX10_gcd_1 : decode cX10_gcd 1 = .ok (.lstore 4, 2) := by decide +kernel
theorem dX10_gcd_3 : decode cX10_gcd 3 = .ok (.lload_n 2, 1) := by decide +kernel
theorem dX10_gcd_4 : decode cX10_gcd 4 = .ok (.lstore 6, 2) := by decide +kernel
theorem dX10_gcd_6 : decode cX10_gcd 6 = .ok (.lload 6, 2) := by decide +kernel
theorem dX10_gcd_8 : decode cX10_gcd 8 = .ok (.lconst 0, 1) := by decide +kernel
theorem dX10_gcd_9 : decode cX10_gcd 9 = .ok (.lcmp, 1) := by decide +kernel
theorem dX10_gcd_10 : decode cX10_gcd 10 = .ok (.ifCond .eq 21, 3) := by decide +kernel
theorem dX10_gcd_13 : decode cX10_gcd 13 = .ok (.lload 4, 2) := by decide +kernel
theorem dX10_gcd_15 : decode cX10_gcd 15 = .ok (.lload 6, 2) := by decide +kernel
theorem dX10_gcd_17 : decode cX10_gcd 17 = .ok (.lrem, 1) := by decide +kernel
theorem dX10_gcd_18 : decode cX10_gcd 18 = .ok (.lstore 8, 2) := by decide +kernel
theorem dX10_gcd_20 : decode cX10_gcd 20 = .ok (.lload 6, 2) := by decide +kernel
theorem dX10_gcd_22 : decode cX10_gcd 22 = .ok (.lstore 4, 2) := by decide +kernel
theorem dX10_gcd_24 : decode cX10_gcd 24 = .ok (.lload 8, 2) := by decide +kernel
theorem dX10_gcd_26 : decode cX10_gcd 26 = .ok (.lstore 6, 2) := by decide +kernel
theorem dX10_gcd_28 : decode cX10_gcd 28 = .ok (.goto (-22), 3) := by decide +kernel
theorem dX10_gcd_31 : decode cX10_gcd 31 = .ok (.lload 4, 2) := by decide +kernel
theorem dX10_gcd_33 : decode cX10_gcd 33 = .ok (.lreturn, 1) := by decide +kernel
theorem dX10_part_0 : decode cX10_part 0 = .ok (.iload 4, 2) := by decide +kernel
theorem dX10_part_2 : decode cX10_part 2 = .ok (.ifCond .ne 7, 3) := by decide +kernel
theorem dX10_part_5 : decode cX10_part 5 = .ok (.lload_n 0, 1) := by decide +kernel
theorem dX10_part_6 : decode cX10_part 6 = .ok (.goto 4, 3) := by decide +kernel
theorem dX10_part_9 : decode cX10_part 9 = .ok (.lload_n 2, 1) := by decide +kernel
theorem dX10_part_10 : decode cX10_part 10 = .ok (.lload_n 0, 1) := by decide +kernel
theorem dX10_part_11 : decode cX10_part 11 = .ok (.lload_n 2, 1) := by decide +kernel
theorem dX10_part_12 : decode cX10_part 12 = .ok (.invokestatic 150, 3) := by decide +kernel
theorem dX10_part_15 : decode cX10_part 15 = .ok (.ldiv, 1) := by decide +kernel
theorem dX10_part_16 : decode cX10_part 16 = .ok (.lreturn, 1) := by decide +kernel
theorem dX10_run_0 : decode cX10_run 0 = .ok (.aload_n 0, 1) := by decide +kernel
theorem dX10_run_1 : decode cX10_run 1 = .ok (.iload_n 1, 1) := by decide +kernel
theorem dX10_run_2 : decode cX10_run 2 = .ok (.invokevirtual 50, 3) := by decide +kernel
theorem dX10_run_5 : decode cX10_run 5 = .ok (.ifCond .ne 7, 3) := by decide +kernel
theorem dX10_run_8 : decode cX10_run 8 = .ok (.ldc2_w 154, 3) := by decide +kernel
theorem dX10_run_11 : decode cX10_run 11 = .ok (.lreturn, 1) := by decide +kernel
theorem dX10_run_12 : decode cX10_run 12 = .ok (.iload_n 2, 1) := by decide +kernel
theorem dX10_run_13 : decode cX10_run 13 = .ok (.iconst 0, 1) := by decide +kernel
theorem dX10_run_14 : decode cX10_run 14 = .ok (.bipush 6, 2) := by decide +kernel
theorem dX10_run_16 : decode cX10_run 16 = .ok (.invokestatic 46, 3) := by decide +kernel
theorem dX10_run_19 : decode cX10_run 19 = .ok (.ifCond .eq 12, 3) := by decide +kernel
theorem dX10_run_22 : decode cX10_run 22 = .ok (.iload_n 3, 1) := by decide +kernel
theorem dX10_run_23 : decode cX10_run 23 = .ok (.iconst 0, 1) := by decide +kernel
theorem dX10_run_24 : decode cX10_run 24 = .ok (.iconst 5, 1) := by decide +kernel
theorem dX10_run_25 : decode cX10_run 25 = .ok (.invokestatic 46, 3) := by decide +kernel
theorem dX10_run_28 : decode cX10_run 28 = .ok (.ifCond .ne 7, 3) := by decide +kernel
theorem dX10_run_31 : decode cX10_run 31 = .ok (.ldc2_w 156, 3) := by decide +kernel
theorem dX10_run_34 : decode cX10_run 34 = .ok (.lreturn, 1) := by decide +kernel
theorem dX10_run_35 : decode cX10_run 35 = .ok (.aload_n 0, 1) := by decide +kernel
theorem dX10_run_36 : decode cX10_run 36 = .ok (.iload_n 1, 1) := by decide +kernel
theorem dX10_run_37 : decode cX10_run 37 = .ok (.iconst 0, 1) := by decide +kernel
theorem dX10_run_38 : decode cX10_run 38 = .ok (.invokevirtual 54, 3) := by decide +kernel
theorem dX10_run_41 : decode cX10_run 41 = .ok (.istore 4, 2) := by decide +kernel
theorem dX10_run_43 : decode cX10_run 43 = .ok (.aload_n 0, 1) := by decide +kernel
theorem dX10_run_44 : decode cX10_run 44 = .ok (.iload 4, 2) := by decide +kernel
theorem dX10_run_46 : decode cX10_run 46 = .ok (.aload_n 0, 1) := by decide +kernel
theorem dX10_run_47 : decode cX10_run 47 = .ok (.iload_n 1, 1) := by decide +kernel
theorem dX10_run_48 : decode cX10_run 48 = .ok (.iconst 1, 1) := by decide +kernel
theorem dX10_run_49 : decode cX10_run 49 = .ok (.invokevirtual 54, 3) := by decide +kernel
theorem dX10_run_52 : decode cX10_run 52 = .ok (.aload_n 0, 1) := by decide +kernel
theorem dX10_run_53 : decode cX10_run 53 = .ok (.iload_n 1, 1) := by decide +kernel
theorem dX10_run_54 : decode cX10_run 54 = .ok (.iconst 2, 1) := by decide +kernel
theorem dX10_run_55 : decode cX10_run 55 = .ok (.invokevirtual 54, 3) := by decide +kernel
theorem dX10_run_58 : decode cX10_run 58 = .ok (.iload_n 2, 1) := by decide +kernel
theorem dX10_run_59 : decode cX10_run 59 = .ok (.invokevirtual 158, 3) := by decide +kernel
theorem dX10_run_62 : decode cX10_run 62 = .ok (.lconst 0, 1) := by decide +kernel
theorem dX10_run_63 : decode cX10_run 63 = .ok (.lstore 5, 2) := by decide +kernel
theorem dX10_run_65 : decode cX10_run 65 = .ok (.lconst 0, 1) := by decide +kernel
theorem dX10_run_66 : decode cX10_run 66 = .ok (.lstore 7, 2) := by decide +kernel
theorem dX10_run_68 : decode cX10_run 68 = .ok (.iconst 0, 1) := by decide +kernel
theorem dX10_run_69 : decode cX10_run 69 = .ok (.istore 9, 2) := by decide +kernel
theorem dX10_run_71 : decode cX10_run 71 = .ok (.iload 9, 2) := by decide +kernel
theorem dX10_run_73 : decode cX10_run 73 = .ok (.iload 4, 2) := by decide +kernel
theorem dX10_run_75 : decode cX10_run 75 = .ok (.if_icmp .gt 55, 3) := by decide +kernel
theorem dX10_run_78 : decode cX10_run 78 = .ok (.lload 5, 2) := by decide +kernel
theorem dX10_run_80 : decode cX10_run 80 = .ok (.iload 4, 2) := by decide +kernel
theorem dX10_run_82 : decode cX10_run 82 = .ok (.iload 9, 2) := by decide +kernel
theorem dX10_run_84 : decode cX10_run 84 = .ok (.isub, 1) := by decide +kernel
theorem dX10_run_85 : decode cX10_run 85 = .ok (.aload_n 0, 1) := by decide +kernel
theorem dX10_run_86 : decode cX10_run 86 = .ok (.iload_n 1, 1) := by decide +kernel
theorem dX10_run_87 : decode cX10_run 87 = .ok (.iconst 2, 1) := by decide +kernel
theorem dX10_run_88 : decode cX10_run 88 = .ok (.invokevirtual 54, 3) := by decide +kernel
theorem dX10_run_91 : decode cX10_run 91 = .ok (.if_icmp .gt 13, 3) := by decide +kernel
theorem dX10_run_94 : decode cX10_run 94 = .ok (.aload_n 0, 1) := by decide +kernel
theorem dX10_run_95 : decode cX10_run 95 = .ok (.getfield 30, 3) := by decide +kernel
theorem dX10_run_98 : decode cX10_run 98 = .ok (.iload 9, 2) := by decide +kernel
theorem dX10_run_100 : decode cX10_run 100 = .ok (.laload, 1) := by decide +kernel
theorem dX10_run_101 : decode cX10_run 101 = .ok (.goto 4, 3) := by decide +kernel
theorem dX10_run_104 : decode cX10_run 104 = .ok (.lconst 0, 1) := by decide +kernel
theorem dX10_run_105 : decode cX10_run 105 = .ok (.ladd, 1) := by decide +kernel
theorem dX10_run_106 : decode cX10_run 106 = .ok (.lstore 5, 2) := by decide +kernel
theorem dX10_run_108 : decode cX10_run 108 = .ok (.lload 7, 2) := by decide +kernel
theorem dX10_run_110 : decode cX10_run 110 = .ok (.iload 9, 2) := by decide +kernel
theorem dX10_run_112 : decode cX10_run 112 = .ok (.i2l, 1) := by decide +kernel
theorem dX10_run_113 : decode cX10_run 113 = .ok (.aload_n 0, 1) := by decide +kernel
theorem dX10_run_114 : decode cX10_run 114 = .ok (.getfield 30, 3) := by decide +kernel
theorem dX10_run_117 : decode cX10_run 117 = .ok (.iload 9, 2) := by decide +kernel
theorem dX10_run_119 : decode cX10_run 119 = .ok (.laload, 1) := by decide +kernel
theorem dX10_run_120 : decode cX10_run 120 = .ok (.lmul, 1) := by decide +kernel
theorem dX10_run_121 : decode cX10_run 121 = .ok (.ladd, 1) := by decide +kernel
theorem dX10_run_122 : decode cX10_run 122 = .ok (.lstore 7, 2) := by decide +kernel
theorem dX10_run_124 : decode cX10_run 124 = .ok (.iinc 9 1, 3) := by decide +kernel
theorem dX10_run_127 : decode cX10_run 127 = .ok (.goto (-56), 3) := by decide +kernel
theorem dX10_run_130 : decode cX10_run 130 = .ok (.iload_n 3, 1) := by decide +kernel
theorem dX10_run_131 : decode cX10_run 131 = .ok (.iconst 2, 1) := by decide +kernel
theorem dX10_run_132 : decode cX10_run 132 = .ok (.if_icmp .ge 13, 3) := by decide +kernel
theorem dX10_run_135 : decode cX10_run 135 = .ok (.aload_n 0, 1) := by decide +kernel
theorem dX10_run_136 : decode cX10_run 136 = .ok (.getfield 30, 3) := by decide +kernel
theorem dX10_run_139 : decode cX10_run 139 = .ok (.iload 4, 2) := by decide +kernel
theorem dX10_run_141 : decode cX10_run 141 = .ok (.laload, 1) := by decide +kernel
theorem dX10_run_142 : decode cX10_run 142 = .ok (.goto 15, 3) := by decide +kernel
theorem dX10_run_145 : decode cX10_run 145 = .ok (.iload_n 3, 1) := by decide +kernel
theorem dX10_run_146 : decode cX10_run 146 = .ok (.iconst 4, 1) := by decide +kernel
theorem dX10_run_147 : decode cX10_run 147 = .ok (.if_icmp .ge 8, 3) := by decide +kernel
theorem dX10_run_150 : decode cX10_run 150 = .ok (.lload 5, 2) := by decide +kernel
theorem dX10_run_152 : decode cX10_run 152 = .ok (.goto 5, 3) := by decide +kernel
theorem dX10_run_155 : decode cX10_run 155 = .ok (.lload 7, 2) := by decide +kernel
theorem dX10_run_157 : decode cX10_run 157 = .ok (.aload_n 0, 1) := by decide +kernel
theorem dX10_run_158 : decode cX10_run 158 = .ok (.getfield 147, 3) := by decide +kernel
theorem dX10_run_161 : decode cX10_run 161 = .ok (.iload_n 3, 1) := by decide +kernel
theorem dX10_run_162 : decode cX10_run 162 = .ok (.iconst 2, 1) := by decide +kernel
theorem dX10_run_163 : decode cX10_run 163 = .ok (.irem, 1) := by decide +kernel
theorem dX10_run_164 : decode cX10_run 164 = .ok (.invokestatic 162, 3) := by decide +kernel
theorem dX10_run_167 : decode cX10_run 167 = .ok (.lreturn, 1) := by decide +kernel
theorem dX10_over_0 : decode cX10_over 0 = .ok (.aload_n 0, 1) := by decide +kernel
theorem dX10_over_1 : decode cX10_over 1 = .ok (.iload_n 1, 1) := by decide +kernel
theorem dX10_over_2 : decode cX10_over 2 = .ok (.invokevirtual 50, 3) := by decide +kernel
theorem dX10_over_5 : decode cX10_over 5 = .ok (.ifCond .ne 7, 3) := by decide +kernel
theorem dX10_over_8 : decode cX10_over 8 = .ok (.ldc2_w 154, 3) := by decide +kernel
theorem dX10_over_11 : decode cX10_over 11 = .ok (.lreturn, 1) := by decide +kernel
theorem dX10_over_12 : decode cX10_over 12 = .ok (.iload_n 2, 1) := by decide +kernel
theorem dX10_over_13 : decode cX10_over 13 = .ok (.iconst 0, 1) := by decide +kernel
theorem dX10_over_14 : decode cX10_over 14 = .ok (.iconst 3, 1) := by decide +kernel
theorem dX10_over_15 : decode cX10_over 15 = .ok (.invokestatic 46, 3) := by decide +kernel
theorem dX10_over_18 : decode cX10_over 18 = .ok (.ifCond .ne 7, 3) := by decide +kernel
theorem dX10_over_21 : decode cX10_over 21 = .ok (.ldc2_w 156, 3) := by decide +kernel
theorem dX10_over_24 : decode cX10_over 24 = .ok (.lreturn, 1) := by decide +kernel
theorem dX10_over_25 : decode cX10_over 25 = .ok (.aload_n 0, 1) := by decide +kernel
theorem dX10_over_26 : decode cX10_over 26 = .ok (.iload_n 1, 1) := by decide +kernel
theorem dX10_over_27 : decode cX10_over 27 = .ok (.iconst 0, 1) := by decide +kernel
theorem dX10_over_28 : decode cX10_over 28 = .ok (.invokevirtual 54, 3) := by decide +kernel
theorem dX10_over_31 : decode cX10_over 31 = .ok (.istore_n 3, 1) := by decide +kernel
theorem dX10_over_32 : decode cX10_over 32 = .ok (.aload_n 0, 1) := by decide +kernel
theorem dX10_over_33 : decode cX10_over 33 = .ok (.iload_n 1, 1) := by decide +kernel
theorem dX10_over_34 : decode cX10_over 34 = .ok (.iconst 1, 1) := by decide +kernel
theorem dX10_over_35 : decode cX10_over 35 = .ok (.invokevirtual 54, 3) := by decide +kernel
theorem dX10_over_38 : decode cX10_over 38 = .ok (.istore 4, 2) := by decide +kernel
theorem dX10_over_40 : decode cX10_over 40 = .ok (.aload_n 0, 1) := by decide +kernel
theorem dX10_over_41 : decode cX10_over 41 = .ok (.iload_n 3, 1) := by decide +kernel
theorem dX10_over_42 : decode cX10_over 42 = .ok (.iload 4, 2) := by decide +kernel
theorem dX10_over_44 : decode cX10_over 44 = .ok (.iconst 0, 1) := by decide +kernel
theorem dX10_over_45 : decode cX10_over 45 = .ok (.iconst 0, 1) := by decide +kernel
theorem dX10_over_46 : decode cX10_over 46 = .ok (.invokevirtual 158, 3) := by decide +kernel
theorem dX10_over_49 : decode cX10_over 49 = .ok (.iload 4, 2) := by decide +kernel
theorem dX10_over_51 : decode cX10_over 51 = .ok (.i2l, 1) := by decide +kernel
theorem dX10_over_52 : decode cX10_over 52 = .ok (.aload_n 0, 1) := by decide +kernel
theorem dX10_over_53 : decode cX10_over 53 = .ok (.getfield 30, 3) := by decide +kernel
theorem dX10_over_56 : decode cX10_over 56 = .ok (.iload_n 3, 1) := by decide +kernel
theorem dX10_over_57 : decode cX10_over 57 = .ok (.laload, 1) := by decide +kernel
theorem dX10_over_58 : decode cX10_over 58 = .ok (.lmul, 1) := by decide +kernel
theorem dX10_over_59 : decode cX10_over 59 = .ok (.aload_n 0, 1) := by decide +kernel
theorem dX10_over_60 : decode cX10_over 60 = .ok (.getfield 147, 3) := by decide +kernel
theorem dX10_over_63 : decode cX10_over 63 = .ok (.iconst 0, 1) := by decide +kernel
theorem dX10_over_64 : decode cX10_over 64 = .ok (.invokestatic 162, 3) := by decide +kernel
theorem dX10_over_67 : decode cX10_over 67 = .ok (.lstore 5, 2) := by decide +kernel
theorem dX10_over_69 : decode cX10_over 69 = .ok (.iload 4, 2) := by decide +kernel
theorem dX10_over_71 : decode cX10_over 71 = .ok (.i2l, 1) := by decide +kernel
theorem dX10_over_72 : decode cX10_over 72 = .ok (.aload_n 0, 1) := by decide +kernel
theorem dX10_over_73 : decode cX10_over 73 = .ok (.getfield 30, 3) := by decide +kernel
theorem dX10_over_76 : decode cX10_over 76 = .ok (.iload_n 3, 1) := by decide +kernel
theorem dX10_over_77 : decode cX10_over 77 = .ok (.laload, 1) := by decide +kernel
theorem dX10_over_78 : decode cX10_over 78 = .ok (.lmul, 1) := by decide +kernel
theorem dX10_over_79 : decode cX10_over 79 = .ok (.aload_n 0, 1) := by decide +kernel
theorem dX10_over_80 : decode cX10_over 80 = .ok (.getfield 147, 3) := by decide +kernel
theorem dX10_over_83 : decode cX10_over 83 = .ok (.iconst 1, 1) := by decide +kernel
theorem dX10_over_84 : decode cX10_over 84 = .ok (.invokestatic 162, 3) := by decide +kernel
theorem dX10_over_87 : decode cX10_over 87 = .ok (.lstore 7, 2) := by decide +kernel
theorem dX10_over_89 : decode cX10_over 89 = .ok (.iload_n 2, 1) := by decide +kernel
theorem dX10_over_90 : decode cX10_over 90 = .ok (.iconst 2, 1) := by decide +kernel
theorem dX10_over_91 : decode cX10_over 91 = .ok (.if_icmp .ge 15, 3) := by decide +kernel
theorem dX10_over_94 : decode cX10_over 94 = .ok (.iload_n 2, 1) := by decide +kernel
theorem dX10_over_95 : decode cX10_over 95 = .ok (.ifCond .ne 8, 3) := by decide +kernel
theorem dX10_over_98 : decode cX10_over 98 = .ok (.lload 5, 2) := by decide +kernel
theorem dX10_over_100 : decode cX10_over 100 = .ok (.goto 5, 3) := by decide +kernel
theorem dX10_over_103 : decode cX10_over 103 = .ok (.lload 7, 2) := by decide +kernel
theorem dX10_over_105 : decode cX10_over 105 = .ok (.lreturn, 1) := by decide +kernel
theorem dX10_over_106 : decode cX10_over 106 = .ok (.iload_n 3, 1) := by decide +kernel
theorem dX10_over_107 : decode cX10_over 107 = .ok (.iconst 1, 1) := by decide +kernel
theorem dX10_over_108 : decode cX10_over 108 = .ok (.iadd, 1) := by decide +kernel
theorem dX10_over_109 : decode cX10_over 109 = .ok (.iload 4, 2) := by decide +kernel
theorem dX10_over_111 : decode cX10_over 111 = .ok (.isub, 1) := by decide +kernel
theorem dX10_over_112 : decode cX10_over 112 = .ok (.i2l, 1) := by decide +kernel
theorem dX10_over_113 : decode cX10_over 113 = .ok (.lload 7, 2) := by decide +kernel
theorem dX10_over_115 : decode cX10_over 115 = .ok (.lmul, 1) := by decide +kernel
theorem dX10_over_116 : decode cX10_over 116 = .ok (.lload 5, 2) := by decide +kernel
theorem dX10_over_118 : decode cX10_over 118 = .ok (.ladd, 1) := by decide +kernel
theorem dX10_over_119 : decode cX10_over 119 = .ok (.lstore 9, 2) := by decide +kernel
theorem dX10_over_121 : decode cX10_over 121 = .ok (.lload 7, 2) := by decide +kernel
theorem dX10_over_123 : decode cX10_over 123 = .ok (.lload 5, 2) := by decide +kernel
theorem dX10_over_125 : decode cX10_over 125 = .ok (.lsub, 1) := by decide +kernel
theorem dX10_over_126 : decode cX10_over 126 = .ok (.lload 9, 2) := by decide +kernel
theorem dX10_over_128 : decode cX10_over 128 = .ok (.lmul, 1) := by decide +kernel
theorem dX10_over_129 : decode cX10_over 129 = .ok (.iload 4, 2) := by decide +kernel
theorem dX10_over_131 : decode cX10_over 131 = .ok (.i2l, 1) := by decide +kernel
theorem dX10_over_132 : decode cX10_over 132 = .ok (.lload 7, 2) := by decide +kernel
theorem dX10_over_134 : decode cX10_over 134 = .ok (.lmul, 1) := by decide +kernel
theorem dX10_over_135 : decode cX10_over 135 = .ok (.lload 7, 2) := by decide +kernel
theorem dX10_over_137 : decode cX10_over 137 = .ok (.lmul, 1) := by decide +kernel
theorem dX10_over_138 : decode cX10_over 138 = .ok (.ladd, 1) := by decide +kernel
theorem dX10_over_139 : decode cX10_over 139 = .ok (.lstore 11, 2) := by decide +kernel
theorem dX10_over_141 : decode cX10_over 141 = .ok (.lload 5, 2) := by decide +kernel
theorem dX10_over_143 : decode cX10_over 143 = .ok (.lload 9, 2) := by decide +kernel
theorem dX10_over_145 : decode cX10_over 145 = .ok (.invokestatic 150, 3) := by decide +kernel
theorem dX10_over_148 : decode cX10_over 148 = .ok (.lstore 13, 2) := by decide +kernel
theorem dX10_over_150 : decode cX10_over 150 = .ok (.lload 11, 2) := by decide +kernel
theorem dX10_over_152 : decode cX10_over 152 = .ok (.lload 7, 2) := by decide +kernel
theorem dX10_over_154 : decode cX10_over 154 = .ok (.invokestatic 150, 3) := by decide +kernel
theorem dX10_over_157 : decode cX10_over 157 = .ok (.lstore 15, 2) := by decide +kernel
theorem dX10_over_159 : decode cX10_over 159 = .ok (.lload 5, 2) := by decide +kernel
theorem dX10_over_161 : decode cX10_over 161 = .ok (.lload 13, 2) := by decide +kernel
theorem dX10_over_163 : decode cX10_over 163 = .ok (.ldiv, 1) := by decide +kernel
theorem dX10_over_164 : decode cX10_over 164 = .ok (.lload 11, 2) := by decide +kernel
theorem dX10_over_166 : decode cX10_over 166 = .ok (.lload 15, 2) := by decide +kernel
theorem dX10_over_168 : decode cX10_over 168 = .ok (.ldiv, 1) := by decide +kernel
theorem dX10_over_169 : decode cX10_over 169 = .ok (.lmul, 1) := by decide +kernel
theorem dX10_over_170 : decode cX10_over 170 = .ok (.lload 7, 2) := by decide +kernel
theorem dX10_over_172 : decode cX10_over 172 = .ok (.lload 7, 2) := by decide +kernel
theorem dX10_over_174 : decode cX10_over 174 = .ok (.lload 15, 2) := by decide +kernel
theorem dX10_over_176 : decode cX10_over 176 = .ok (.ldiv, 1) := by decide +kernel
theorem dX10_over_177 : decode cX10_over 177 = .ok (.lmul, 1) := by decide +kernel
theorem dX10_over_178 : decode cX10_over 178 = .ok (.lload 9, 2) := by decide +kernel
theorem dX10_over_180 : decode cX10_over 180 = .ok (.lload 13, 2) := by decide +kernel
theorem dX10_over_182 : decode cX10_over 182 = .ok (.ldiv, 1) := by decide +kernel
theorem dX10_over_183 : decode cX10_over 183 = .ok (.lmul, 1) := by decide +kernel
theorem dX10_over_184 : decode cX10_over 184 = .ok (.iload_n 2, 1) := by decide +kernel
theorem dX10_over_185 : decode cX10_over 185 = .ok (.iconst 2, 1) := by decide +kernel
theorem dX10_over_186 : decode cX10_over 186 = .ok (.irem, 1) := by decide +kernel
theorem dX10_over_187 : decode cX10_over 187 = .ok (.invokestatic 162, 3) := by decide +kernel
theorem dX10_over_190 : decode cX10_over 190 = .ok (.lreturn, 1) := by decide +kernel
theorem dX10_linesFor_0 : decode cX10_linesFor 0 = .ok (.aload_n 0, 1) := by decide +kernel
theorem dX10_linesFor_1 : decode cX10_linesFor 1 = .ok (.iload_n 1, 1) := by decide +kernel
theorem dX10_linesFor_2 : decode cX10_linesFor 2 = .ok (.invokevirtual 50, 3) := by decide +kernel
theorem dX10_linesFor_5 : decode cX10_linesFor 5 = .ok (.ifCond .ne 6, 3) := by decide +kernel
theorem dX10_linesFor_8 : decode cX10_linesFor 8 = .ok (.ldc 118, 2) := by decide +kernel
theorem dX10_linesFor_10 : decode cX10_linesFor 10 = .ok (.ireturn, 1) := by decide +kernel
theorem dX10_linesFor_11 : decode cX10_linesFor 11 = .ok (.iload_n 2, 1) := by decide +kernel
theorem dX10_linesFor_12 : decode cX10_linesFor 12 = .ok (.iconst 0, 1) := by decide +kernel
theorem dX10_linesFor_13 : decode cX10_linesFor 13 = .ok (.bipush 6, 2) := by decide +kernel
theorem dX10_linesFor_15 : decode cX10_linesFor 15 = .ok (.invokestatic 46, 3) := by decide +kernel
theorem dX10_linesFor_18 : decode cX10_linesFor 18 = .ok (.ifCond .eq 14, 3) := by decide +kernel
theorem dX10_linesFor_21 : decode cX10_linesFor 21 = .ok (.iload_n 3, 1) := by decide +kernel
theorem dX10_linesFor_22 : decode cX10_linesFor 22 = .ok (.iconst 1, 1) := by decide +kernel
theorem dX10_linesFor_23 : decode cX10_linesFor 23 = .ok (.sipush 999, 3) := by decide +kernel
theorem dX10_linesFor_26 : decode cX10_linesFor 26 = .ok (.invokestatic 46, 3) := by decide +kernel
theorem dX10_linesFor_29 : decode cX10_linesFor 29 = .ok (.ifCond .ne 6, 3) := by decide +kernel
theorem dX10_linesFor_32 : decode cX10_linesFor 32 = .ok (.ldc 117, 2) := by decide +kernel
theorem dX10_linesFor_34 : decode cX10_linesFor 34 = .ok (.ireturn, 1) := by decide +kernel
theorem dX10_linesFor_35 : decode cX10_linesFor 35 = .ok (.iconst 1, 1) := by decide +kernel
theorem dX10_linesFor_36 : decode cX10_linesFor 36 = .ok (.istore 4, 2) := by decide +kernel
theorem dX10_linesFor_38 : decode cX10_linesFor 38 = .ok (.iload 4, 2) := by decide +kernel
theorem dX10_linesFor_40 : decode cX10_linesFor 40 = .ok (.bipush 7, 2) := by decide +kernel
theorem dX10_linesFor_42 : decode cX10_linesFor 42 = .ok (.if_icmp .ge 48, 3) := by decide +kernel
theorem dX10_linesFor_45 : decode cX10_linesFor 45 = .ok (.aload_n 0, 1) := by decide +kernel
theorem dX10_linesFor_46 : decode cX10_linesFor 46 = .ok (.iload 4, 2) := by decide +kernel
theorem dX10_linesFor_48 : decode cX10_linesFor 48 = .ok (.aload_n 0, 1) := by decide +kernel
theorem dX10_linesFor_49 : decode cX10_linesFor 49 = .ok (.iload_n 1, 1) := by decide +kernel
theorem dX10_linesFor_50 : decode cX10_linesFor 50 = .ok (.iconst 1, 1) := by decide +kernel
theorem dX10_linesFor_51 : decode cX10_linesFor 51 = .ok (.invokevirtual 54, 3) := by decide +kernel
theorem dX10_linesFor_54 : decode cX10_linesFor 54 = .ok (.iconst 0, 1) := by decide +kernel
theorem dX10_linesFor_55 : decode cX10_linesFor 55 = .ok (.iload_n 2, 1) := by decide +kernel
theorem dX10_linesFor_56 : decode cX10_linesFor 56 = .ok (.invokevirtual 158, 3) := by decide +kernel
theorem dX10_linesFor_59 : decode cX10_linesFor 59 = .ok (.ldc2_w 96, 3) := by decide +kernel
theorem dX10_linesFor_62 : decode cX10_linesFor 62 = .ok (.aload_n 0, 1) := by decide +kernel
theorem dX10_linesFor_63 : decode cX10_linesFor 63 = .ok (.getfield 30, 3) := by decide +kernel
theorem dX10_linesFor_66 : decode cX10_linesFor 66 = .ok (.iload 4, 2) := by decide +kernel
theorem dX10_linesFor_68 : decode cX10_linesFor 68 = .ok (.laload, 1) := by decide +kernel
theorem dX10_linesFor_69 : decode cX10_linesFor 69 = .ok (.lmul, 1) := by decide +kernel
theorem dX10_linesFor_70 : decode cX10_linesFor 70 = .ok (.iload_n 3, 1) := by decide +kernel
theorem dX10_linesFor_71 : decode cX10_linesFor 71 = .ok (.i2l, 1) := by decide +kernel
theorem dX10_linesFor_72 : decode cX10_linesFor 72 = .ok (.aload_n 0, 1) := by decide +kernel
theorem dX10_linesFor_73 : decode cX10_linesFor 73 = .ok (.getfield 147, 3) := by decide +kernel
theorem dX10_linesFor_76 : decode cX10_linesFor 76 = .ok (.lmul, 1) := by decide +kernel
theorem dX10_linesFor_77 : decode cX10_linesFor 77 = .ok (.lcmp, 1) := by decide +kernel
theorem dX10_linesFor_78 : decode cX10_linesFor 78 = .ok (.ifCond .gt 6, 3) := by decide +kernel
theorem dX10_linesFor_81 : decode cX10_linesFor 81 = .ok (.iload 4, 2) := by decide +kernel
theorem dX10_linesFor_83 : decode cX10_linesFor 83 = .ok (.ireturn, 1) := by decide +kernel
theorem dX10_linesFor_84 : decode cX10_linesFor 84 = .ok (.iinc 4 1, 3) := by decide +kernel
theorem dX10_linesFor_87 : decode cX10_linesFor 87 = .ok (.goto (-49), 3) := by decide +kernel
theorem dX10_linesFor_90 : decode cX10_linesFor 90 = .ok (.iconst (-1), 1) := by decide +kernel
theorem dX10_linesFor_91 : decode cX10_linesFor 91 = .ok (.ireturn, 1) := by decide +kernel
theorem dX10_bestReserve_0 : decode cX10_bestReserve 0 = .ok (.aload_n 0, 1) := by decide +kernel
theorem dX10_bestReserve_1 : decode cX10_bestReserve 1 = .ok (.iload_n 1, 1) := by decide +kernel
theorem dX10_bestReserve_2 : decode cX10_bestReserve 2 = .ok (.invokevirtual 50, 3) := by decide +kernel
theorem dX10_bestReserve_5 : decode cX10_bestReserve 5 = .ok (.ifCond .ne 6, 3) := by decide +kernel
theorem dX10_bestReserve_8 : decode cX10_bestReserve 8 = .ok (.ldc 118, 2) := by decide +kernel
theorem dX10_bestReserve_10 : decode cX10_bestReserve 10 = .ok (.ireturn, 1) := by decide +kernel
theorem dX10_bestReserve_11 : decode cX10_bestReserve 11 = .ok (.iload_n 2, 1) := by decide +kernel
theorem dX10_bestReserve_12 : decode cX10_bestReserve 12 = .ok (.iconst 0, 1) := by decide +kernel
theorem dX10_bestReserve_13 : decode cX10_bestReserve 13 = .ok (.bipush 6, 2) := by decide +kernel
theorem dX10_bestReserve_15 : decode cX10_bestReserve 15 = .ok (.invokestatic 46, 3) := by decide +kernel
theorem dX10_bestReserve_18 : decode cX10_bestReserve 18 = .ok (.ifCond .eq 14, 3) := by decide +kernel
theorem dX10_bestReserve_21 : decode cX10_bestReserve 21 = .ok (.iload_n 3, 1) := by decide +kernel
theorem dX10_bestReserve_22 : decode cX10_bestReserve 22 = .ok (.iconst 1, 1) := by decide +kernel
theorem dX10_bestReserve_23 : decode cX10_bestReserve 23 = .ok (.sipush 999, 3) := by decide +kernel
theorem dX10_bestReserve_26 : decode cX10_bestReserve 26 = .ok (.invokestatic 46, 3) := by decide +kernel
theorem dX10_bestReserve_29 : decode cX10_bestReserve 29 = .ok (.ifCond .ne 6, 3) := by decide +kernel
theorem dX10_bestReserve_32 : decode cX10_bestReserve 32 = .ok (.ldc 117, 2) := by decide +kernel
theorem dX10_bestReserve_34 : decode cX10_bestReserve 34 = .ok (.ireturn, 1) := by decide +kernel
theorem dX10_bestReserve_35 : decode cX10_bestReserve 35 = .ok (.iconst 0, 1) := by decide +kernel
theorem dX10_bestReserve_36 : decode cX10_bestReserve 36 = .ok (.istore 4, 2) := by decide +kernel
theorem dX10_bestReserve_38 : decode cX10_bestReserve 38 = .ok (.iload 4, 2) := by decide +kernel
theorem dX10_bestReserve_40 : decode cX10_bestReserve 40 = .ok (.aload_n 0, 1) := by decide +kernel
theorem dX10_bestReserve_41 : decode cX10_bestReserve 41 = .ok (.iload_n 1, 1) := by decide +kernel
theorem dX10_bestReserve_42 : decode cX10_bestReserve 42 = .ok (.iconst 0, 1) := by decide +kernel
theorem dX10_bestReserve_43 : decode cX10_bestReserve 43 = .ok (.invokevirtual 54, 3) := by decide +kernel
theorem dX10_bestReserve_46 : decode cX10_bestReserve 46 = .ok (.if_icmp .gt 57, 3) := by decide +kernel
theorem dX10_bestReserve_49 : decode cX10_bestReserve 49 = .ok (.aload_n 0, 1) := by decide +kernel
theorem dX10_bestReserve_50 : decode cX10_bestReserve 50 = .ok (.aload_n 0, 1) := by decide +kernel
theorem dX10_bestReserve_51 : decode cX10_bestReserve 51 = .ok (.iload_n 1, 1) := by decide +kernel
theorem dX10_bestReserve_52 : decode cX10_bestReserve 52 = .ok (.iconst 0, 1) := by decide +kernel
theorem dX10_bestReserve_53 : decode cX10_bestReserve 53 = .ok (.invokevirtual 54, 3) := by decide +kernel
theorem dX10_bestReserve_56 : decode cX10_bestReserve 56 = .ok (.aload_n 0, 1) := by decide +kernel
theorem dX10_bestReserve_57 : decode cX10_bestReserve 57 = .ok (.iload_n 1, 1) := by decide +kernel
theorem dX10_bestReserve_58 : decode cX10_bestReserve 58 = .ok (.iconst 1, 1) := by decide +kernel
theorem dX10_bestReserve_59 : decode cX10_bestReserve 59 = .ok (.invokevirtual 54, 3) := by decide +kernel
theorem dX10_bestReserve_62 : decode cX10_bestReserve 62 = .ok (.iload 4, 2) := by decide +kernel
theorem dX10_bestReserve_64 : decode cX10_bestReserve 64 = .ok (.iload_n 2, 1) := by decide +kernel
theorem dX10_bestReserve_65 : decode cX10_bestReserve 65 = .ok (.invokevirtual 158, 3) := by decide +kernel
theorem dX10_bestReserve_68 : decode cX10_bestReserve 68 = .ok (.ldc2_w 96, 3) := by decide +kernel
theorem dX10_bestReserve_71 : decode cX10_bestReserve 71 = .ok (.aload_n 0, 1) := by decide +kernel
theorem dX10_bestReserve_72 : decode cX10_bestReserve 72 = .ok (.getfield 30, 3) := by decide +kernel
theorem dX10_bestReserve_75 : decode cX10_bestReserve 75 = .ok (.aload_n 0, 1) := by decide +kernel
theorem dX10_bestReserve_76 : decode cX10_bestReserve 76 = .ok (.iload_n 1, 1) := by decide +kernel
theorem dX10_bestReserve_77 : decode cX10_bestReserve 77 = .ok (.iconst 0, 1) := by decide +kernel
theorem dX10_bestReserve_78 : decode cX10_bestReserve 78 = .ok (.invokevirtual 54, 3) := by decide +kernel
theorem dX10_bestReserve_81 : decode cX10_bestReserve 81 = .ok (.laload, 1) := by decide +kernel
theorem dX10_bestReserve_82 : decode cX10_bestReserve 82 = .ok (.lmul, 1) := by decide +kernel
theorem dX10_bestReserve_83 : decode cX10_bestReserve 83 = .ok (.iload_n 3, 1) := by decide +kernel
theorem dX10_bestReserve_84 : decode cX10_bestReserve 84 = .ok (.i2l, 1) := by decide +kernel
theorem dX10_bestReserve_85 : decode cX10_bestReserve 85 = .ok (.aload_n 0, 1) := by decide +kernel
theorem dX10_bestReserve_86 : decode cX10_bestReserve 86 = .ok (.getfield 147, 3) := by decide +kernel
theorem dX10_bestReserve_89 : decode cX10_bestReserve 89 = .ok (.lmul, 1) := by decide +kernel
theorem dX10_bestReserve_90 : decode cX10_bestReserve 90 = .ok (.lcmp, 1) := by decide +kernel
theorem dX10_bestReserve_91 : decode cX10_bestReserve 91 = .ok (.ifCond .gt 6, 3) := by decide +kernel
theorem dX10_bestReserve_94 : decode cX10_bestReserve 94 = .ok (.iload 4, 2) := by decide +kernel
theorem dX10_bestReserve_96 : decode cX10_bestReserve 96 = .ok (.ireturn, 1) := by decide +kernel
theorem dX10_bestReserve_97 : decode cX10_bestReserve 97 = .ok (.iinc 4 1, 3) := by decide +kernel
theorem dX10_bestReserve_100 : decode cX10_bestReserve 100 = .ok (.goto (-62), 3) := by decide +kernel
theorem dX10_bestReserve_103 : decode cX10_bestReserve 103 = .ok (.iconst (-1), 1) := by decide +kernel
theorem dX10_bestReserve_104 : decode cX10_bestReserve 104 = .ok (.ireturn, 1) := by decide +kernel
theorem dX10_write_0 : decode cX10_write 0 = .ok (.aload_n 0, 1) := by decide +kernel
theorem dX10_write_1 : decode cX10_write 1 = .ok (.iload_n 1, 1) := by decide +kernel
theorem dX10_write_2 : decode cX10_write 2 = .ok (.iload_n 2, 1) := by decide +kernel
theorem dX10_write_3 : decode cX10_write 3 = .ok (.invokevirtual 90, 3) := by decide +kernel
theorem dX10_write_6 : decode cX10_write 6 = .ok (.ifCond .ne 6, 3) := by decide +kernel
theorem dX10_write_9 : decode cX10_write 9 = .ok (.ldc 118, 2) := by decide +kernel
theorem dX10_write_11 : decode cX10_write 11 = .ok (.ireturn, 1) := by decide +kernel
theorem dX10_write_12 : decode cX10_write 12 = .ok (.iload_n 3, 1) := by decide +kernel
theorem dX10_write_13 : decode cX10_write 13 = .ok (.iconst 0, 1) := by decide +kernel
theorem dX10_write_14 : decode cX10_write 14 = .ok (.iconst 2, 1) := by decide +kernel
theorem dX10_write_15 : decode cX10_write 15 = .ok (.invokestatic 46, 3) := by decide +kernel
theorem dX10_write_18 : decode cX10_write 18 = .ok (.ifCond .ne 6, 3) := by decide +kernel
theorem dX10_write_21 : decode cX10_write 21 = .ok (.ldc 117, 2) := by decide +kernel
theorem dX10_write_23 : decode cX10_write 23 = .ok (.ireturn, 1) := by decide +kernel
theorem dX10_write_24 : decode cX10_write 24 = .ok (.aload_n 0, 1) := by decide +kernel
theorem dX10_write_25 : decode cX10_write 25 = .ok (.getfield 87, 3) := by decide +kernel
theorem dX10_write_28 : decode cX10_write 28 = .ok (.bipush 20, 2) := by decide +kernel
theorem dX10_write_30 : decode cX10_write 30 = .ok (.if_icmp .ne 6, 3) := by decide +kernel
theorem dX10_write_33 : decode cX10_write 33 = .ok (.ldc 166, 2) := by decide +kernel
theorem dX10_write_35 : decode cX10_write 35 = .ok (.ireturn, 1) := by decide +kernel
theorem dX10_write_36 : decode cX10_write 36 = .ok (.aload_n 0, 1) := by decide +kernel
theorem dX10_write_37 : decode cX10_write 37 = .ok (.getfield 27, 3) := by decide +kernel
theorem dX10_write_40 : decode cX10_write 40 = .ok (.iconst 3, 1) := by decide +kernel
theorem dX10_write_41 : decode cX10_write 41 = .ok (.aload_n 0, 1) := by decide +kernel
theorem dX10_write_42 : decode cX10_write 42 = .ok (.getfield 87, 3) := by decide +kernel
theorem dX10_write_45 : decode cX10_write 45 = .ok (.imul, 1) := by decide +kernel
theorem dX10_write_46 : decode cX10_write 46 = .ok (.iload_n 1, 1) := by decide +kernel
theorem dX10_write_47 : decode cX10_write 47 = .ok (.iastore, 1) := by decide +kernel
theorem dX10_write_48 : decode cX10_write 48 = .ok (.aload_n 0, 1) := by decide +kernel
theorem dX10_write_49 : decode cX10_write 49 = .ok (.getfield 27, 3) := by decide +kernel
theorem dX10_write_52 : decode cX10_write 52 = .ok (.iconst 3, 1) := by decide +kernel
theorem dX10_write_53 : decode cX10_write 53 = .ok (.aload_n 0, 1) := by decide +kernel
theorem dX10_write_54 : decode cX10_write 54 = .ok (.getfield 87, 3) := by decide +kernel
theorem dX10_write_57 : decode cX10_write 57 = .ok (.imul, 1) := by decide +kernel
theorem dX10_write_58 : decode cX10_write 58 = .ok (.iconst 1, 1) := by decide +kernel
theorem dX10_write_59 : decode cX10_write 59 = .ok (.iadd, 1) := by decide +kernel
theorem dX10_write_60 : decode cX10_write 60 = .ok (.iload_n 2, 1) := by decide +kernel
theorem dX10_write_61 : decode cX10_write 61 = .ok (.iastore, 1) := by decide +kernel
theorem dX10_write_62 : decode cX10_write 62 = .ok (.aload_n 0, 1) := by decide +kernel
theorem dX10_write_63 : decode cX10_write 63 = .ok (.getfield 27, 3) := by decide +kernel
theorem dX10_write_66 : decode cX10_write 66 = .ok (.iconst 3, 1) := by decide +kernel
theorem dX10_write_67 : decode cX10_write 67 = .ok (.aload_n 0, 1) := by decide +kernel
theorem dX10_write_68 : decode cX10_write 68 = .ok (.getfield 87, 3) := by decide +kernel
theorem dX10_write_71 : decode cX10_write 71 = .ok (.imul, 1) := by decide +kernel
theorem dX10_write_72 : decode cX10_write 72 = .ok (.iconst 2, 1) := by decide +kernel
theorem dX10_write_73 : decode cX10_write 73 = .ok (.iadd, 1) := by decide +kernel
theorem dX10_write_74 : decode cX10_write 74 = .ok (.iload_n 3, 1) := by decide +kernel
theorem dX10_write_75 : decode cX10_write 75 = .ok (.iastore, 1) := by decide +kernel
theorem dX10_write_76 : decode cX10_write 76 = .ok (.aload_n 0, 1) := by decide +kernel
theorem dX10_write_77 : decode cX10_write 77 = .ok (.dup, 1) := by decide +kernel
theorem dX10_write_78 : decode cX10_write 78 = .ok (.getfield 87, 3) := by decide +kernel
theorem dX10_write_81 : decode cX10_write 81 = .ok (.iconst 1, 1) := by decide +kernel
theorem dX10_write_82 : decode cX10_write 82 = .ok (.iadd, 1) := by decide +kernel
theorem dX10_write_83 : decode cX10_write 83 = .ok (.putfield 87, 3) := by decide +kernel
theorem dX10_write_86 : decode cX10_write 86 = .ok (.aload_n 0, 1) := by decide +kernel
theorem dX10_write_87 : decode cX10_write 87 = .ok (.getfield 87, 3) := by decide +kernel
theorem dX10_write_90 : decode cX10_write 90 = .ok (.ireturn, 1) := by decide +kernel
theorem dX10_tear_0 : decode cX10_tear 0 = .ok (.aload_n 0, 1) := by decide +kernel
theorem dX10_tear_1 : decode cX10_tear 1 = .ok (.getfield 87, 3) := by decide +kernel
theorem dX10_tear_4 : decode cX10_tear 4 = .ok (.istore_n 1, 1) := by decide +kernel
theorem dX10_tear_5 : decode cX10_tear 5 = .ok (.aload_n 0, 1) := by decide +kernel
theorem dX10_tear_6 : decode cX10_tear 6 = .ok (.iconst 0, 1) := by decide +kernel
theorem dX10_tear_7 : decode cX10_tear 7 = .ok (.putfield 87, 3) := by decide +kernel
theorem dX10_tear_10 : decode cX10_tear 10 = .ok (.iload_n 1, 1) := by decide +kernel
theorem dX10_tear_11 : decode cX10_tear 11 = .ok (.ireturn, 1) := by decide +kernel
theorem dX10_seed_0 : decode cX10_seed 0 = .ok (.iload_n 1, 1) := by decide +kernel
theorem dX10_seed_1 : decode cX10_seed 1 = .ok (.ifCond .ge 6, 3) := by decide +kernel
theorem dX10_seed_4 : decode cX10_seed 4 = .ok (.ldc 117, 2) := by decide +kernel
theorem dX10_seed_6 : decode cX10_seed 6 = .ok (.ireturn, 1) := by decide +kernel
theorem dX10_seed_7 : decode cX10_seed 7 = .ok (.aload_n 0, 1) := by decide +kernel
theorem dX10_seed_8 : decode cX10_seed 8 = .ok (.getfield 132, 3) := by decide +kernel
theorem dX10_seed_11 : decode cX10_seed 11 = .ok (.l2i, 1) := by decide +kernel
theorem dX10_seed_12 : decode cX10_seed 12 = .ok (.istore_n 2, 1) := by decide +kernel
theorem dX10_seed_13 : decode cX10_seed 13 = .ok (.aload_n 0, 1) := by decide +kernel
theorem dX10_seed_14 : decode cX10_seed 14 = .ok (.iload_n 1, 1) := by decide +kernel
theorem dX10_seed_15 : decode cX10_seed 15 = .ok (.i2l, 1) := by decide +kernel
theorem dX10_seed_16 : decode cX10_seed 16 = .ok (.putfield 132, 3) := by decide +kernel
theorem dX10_seed_19 : decode cX10_seed 19 = .ok (.iload_n 2, 1) := by decide +kernel
theorem dX10_seed_20 : decode cX10_seed 20 = .ok (.ireturn, 1) := by decide +kernel
theorem dX10_keep_0 : decode cX10_keep 0 = .ok (.iload_n 1, 1) := by decide +kernel
theorem dX10_keep_1 : decode cX10_keep 1 = .ok (.iconst 0, 1) := by decide +kernel
theorem dX10_keep_2 : decode cX10_keep 2 = .ok (.iconst 1, 1) := by decide +kernel
theorem dX10_keep_3 : decode cX10_keep 3 = .ok (.invokestatic 46, 3) := by decide +kernel
theorem dX10_keep_6 : decode cX10_keep 6 = .ok (.ifCond .ne 6, 3) := by decide +kernel
theorem dX10_keep_9 : decode cX10_keep 9 = .ok (.ldc 118, 2) := by decide +kernel
theorem dX10_keep_11 : decode cX10_keep 11 = .ok (.ireturn, 1) := by decide +kernel
theorem dX10_keep_12 : decode cX10_keep 12 = .ok (.iconst 0, 1) := by decide +kernel
theorem dX10_keep_13 : decode cX10_keep 13 = .ok (.istore_n 2, 1) := by decide +kernel
theorem dX10_keep_14 : decode cX10_keep 14 = .ok (.iload_n 2, 1) := by decide +kernel
theorem dX10_keep_15 : decode cX10_keep 15 = .ok (.sipush 139, 3) := by decide +kernel
theorem dX10_keep_18 : decode cX10_keep 18 = .ok (.if_icmp .ge 27, 3) := by decide +kernel
theorem dX10_keep_21 : decode cX10_keep 21 = .ok (.aload_n 0, 1) := by decide +kernel
theorem dX10_keep_22 : decode cX10_keep 22 = .ok (.getfield 16, 3) := by decide +kernel
theorem dX10_keep_25 : decode cX10_keep 25 = .ok (.sipush 139, 3) := by decide +kernel
theorem dX10_keep_28 : decode cX10_keep 28 = .ok (.iload_n 1, 1) := by decide +kernel
theorem dX10_keep_29 : decode cX10_keep 29 = .ok (.imul, 1) := by decide +kernel
theorem dX10_keep_30 : decode cX10_keep 30 = .ok (.iload_n 2, 1) := by decide +kernel
theorem dX10_keep_31 : decode cX10_keep 31 = .ok (.iadd, 1) := by decide +kernel
theorem dX10_keep_32 : decode cX10_keep 32 = .ok (.aload_n 0, 1) := by decide +kernel
theorem dX10_keep_33 : decode cX10_keep 33 = .ok (.getfield 7, 3) := by decide +kernel
theorem dX10_keep_36 : decode cX10_keep 36 = .ok (.iload_n 2, 1) := by decide +kernel
theorem dX10_keep_37 : decode cX10_keep 37 = .ok (.iaload, 1) := by decide +kernel
theorem dX10_keep_38 : decode cX10_keep 38 = .ok (.iastore, 1) := by decide +kernel
theorem dX10_keep_39 : decode cX10_keep 39 = .ok (.iinc 2 1, 3) := by decide +kernel
theorem dX10_keep_42 : decode cX10_keep 42 = .ok (.goto (-28), 3) := by decide +kernel
theorem dX10_keep_45 : decode cX10_keep 45 = .ok (.aload_n 0, 1) := by decide +kernel
theorem dX10_keep_46 : decode cX10_keep 46 = .ok (.getfield 19, 3) := by decide +kernel
theorem dX10_keep_49 : decode cX10_keep 49 = .ok (.iload_n 1, 1) := by decide +kernel
theorem dX10_keep_50 : decode cX10_keep 50 = .ok (.aload_n 0, 1) := by decide +kernel
theorem dX10_keep_51 : decode cX10_keep 51 = .ok (.getfield 132, 3) := by decide +kernel
theorem dX10_keep_54 : decode cX10_keep 54 = .ok (.lastore, 1) := by decide +kernel
theorem dX10_keep_55 : decode cX10_keep 55 = .ok (.aload_n 0, 1) := by decide +kernel
theorem dX10_keep_56 : decode cX10_keep 56 = .ok (.getfield 23, 3) := by decide +kernel
theorem dX10_keep_59 : decode cX10_keep 59 = .ok (.iload_n 1, 1) := by decide +kernel
theorem dX10_keep_60 : decode cX10_keep 60 = .ok (.iconst 1, 1) := by decide +kernel
theorem dX10_keep_61 : decode cX10_keep 61 = .ok (.bastore, 1) := by decide +kernel
theorem dX10_keep_62 : decode cX10_keep 62 = .ok (.aload_n 0, 1) := by decide +kernel
theorem dX10_keep_63 : decode cX10_keep 63 = .ok (.iconst 0, 1) := by decide +kernel
theorem dX10_keep_64 : decode cX10_keep 64 = .ok (.putfield 69, 3) := by decide +kernel
theorem dX10_keep_67 : decode cX10_keep 67 = .ok (.iconst 1, 1) := by decide +kernel
theorem dX10_keep_68 : decode cX10_keep 68 = .ok (.ireturn, 1) := by decide +kernel
theorem dX10_goBack_0 : decode cX10_goBack 0 = .ok (.iload_n 1, 1) := by decide +kernel
theorem dX10_goBack_1 : decode cX10_goBack 1 = .ok (.iconst 0, 1) := by decide +kernel
theorem dX10_goBack_2 : decode cX10_goBack 2 = .ok (.iconst 1, 1) := by decide +kernel
theorem dX10_goBack_3 : decode cX10_goBack 3 = .ok (.invokestatic 46, 3) := by decide +kernel
theorem dX10_goBack_6 : decode cX10_goBack 6 = .ok (.ifCond .ne 6, 3) := by decide +kernel
theorem dX10_goBack_9 : decode cX10_goBack 9 = .ok (.ldc 118, 2) := by decide +kernel
theorem dX10_goBack_11 : decode cX10_goBack 11 = .ok (.ireturn, 1) := by decide +kernel
theorem dX10_goBack_12 : decode cX10_goBack 12 = .ok (.aload_n 0, 1) := by decide +kernel
theorem dX10_goBack_13 : decode cX10_goBack 13 = .ok (.getfield 23, 3) := by decide +kernel
theorem dX10_goBack_16 : decode cX10_goBack 16 = .ok (.iload_n 1, 1) := by decide +kernel
theorem dX10_goBack_17 : decode cX10_goBack 17 = .ok (.baload, 1) := by decide +kernel
theorem dX10_goBack_18 : decode cX10_goBack 18 = .ok (.ifCond .ne 6, 3) := by decide +kernel
theorem dX10_goBack_21 : decode cX10_goBack 21 = .ok (.ldc 128, 2) := by decide +kernel
theorem dX10_goBack_23 : decode cX10_goBack 23 = .ok (.ireturn, 1) := by decide +kernel
theorem dX10_goBack_24 : decode cX10_goBack 24 = .ok (.iconst 0, 1) := by decide +kernel
theorem dX10_goBack_25 : decode cX10_goBack 25 = .ok (.istore_n 2, 1) := by decide +kernel
theorem dX10_goBack_26 : decode cX10_goBack 26 = .ok (.iload_n 2, 1) := by decide +kernel
theorem dX10_goBack_27 : decode cX10_goBack 27 = .ok (.sipush 139, 3) := by decide +kernel
theorem dX10_goBack_30 : decode cX10_goBack 30 = .ok (.if_icmp .ge 27, 3) := by decide +kernel
theorem dX10_goBack_33 : decode cX10_goBack 33 = .ok (.aload_n 0, 1) := by decide +kernel
theorem dX10_goBack_34 : decode cX10_goBack 34 = .ok (.getfield 7, 3) := by decide +kernel
theorem dX10_goBack_37 : decode cX10_goBack 37 = .ok (.iload_n 2, 1) := by decide +kernel
theorem dX10_goBack_38 : decode cX10_goBack 38 = .ok (.aload_n 0, 1) := by decide +kernel
theorem dX10_goBack_39 : decode cX10_goBack 39 = .ok (.getfield 16, 3) := by decide +kernel
theorem dX10_goBack_42 : decode cX10_goBack 42 = .ok (.sipush 139, 3) := by decide +kernel
theorem dX10_goBack_45 : decode cX10_goBack 45 = .ok (.iload_n 1, 1) := by decide +kernel
theorem dX10_goBack_46 : decode cX10_goBack 46 = .ok (.imul, 1) := by decide +kernel
theorem dX10_goBack_47 : decode cX10_goBack 47 = .ok (.iload_n 2, 1) := by decide +kernel
theorem dX10_goBack_48 : decode cX10_goBack 48 = .ok (.iadd, 1) := by decide +kernel
theorem dX10_goBack_49 : decode cX10_goBack 49 = .ok (.iaload, 1) := by decide +kernel
theorem dX10_goBack_50 : decode cX10_goBack 50 = .ok (.iastore, 1) := by decide +kernel
theorem dX10_goBack_51 : decode cX10_goBack 51 = .ok (.iinc 2 1, 3) := by decide +kernel
theorem dX10_goBack_54 : decode cX10_goBack 54 = .ok (.goto (-28), 3) := by decide +kernel
theorem dX10_goBack_57 : decode cX10_goBack 57 = .ok (.aload_n 0, 1) := by decide +kernel
theorem dX10_goBack_58 : decode cX10_goBack 58 = .ok (.aload_n 0, 1) := by decide +kernel
theorem dX10_goBack_59 : decode cX10_goBack 59 = .ok (.getfield 19, 3) := by decide +kernel
theorem dX10_goBack_62 : decode cX10_goBack 62 = .ok (.iload_n 1, 1) := by decide +kernel
theorem dX10_goBack_63 : decode cX10_goBack 63 = .ok (.laload, 1) := by decide +kernel
theorem dX10_goBack_64 : decode cX10_goBack 64 = .ok (.putfield 132, 3) := by decide +kernel
theorem dX10_goBack_67 : decode cX10_goBack 67 = .ok (.aload_n 0, 1) := by decide +kernel
theorem dX10_goBack_68 : decode cX10_goBack 68 = .ok (.iconst 0, 1) := by decide +kernel
theorem dX10_goBack_69 : decode cX10_goBack 69 = .ok (.putfield 69, 3) := by decide +kernel
theorem dX10_goBack_72 : decode cX10_goBack 72 = .ok (.iconst 1, 1) := by decide +kernel
theorem dX10_goBack_73 : decode cX10_goBack 73 = .ok (.ireturn, 1) := by decide +kernel
theorem dJ6_bitCount_0f7a4_0 : decode cJ6_bitCount_0f7a4 0 = .ok (.iload_n 0, 1) := by decide +kernel
theorem dJ6_bitCount_0f7a4_1 : decode cJ6_bitCount_0f7a4 1 = .ok (.iload_n 0, 1) := by decide +kernel
theorem dJ6_bitCount_0f7a4_2 : decode cJ6_bitCount_0f7a4 2 = .ok (.iconst 1, 1) := by decide +kernel
theorem dJ6_bitCount_0f7a4_3 : decode cJ6_bitCount_0f7a4 3 = .ok (.iushr, 1) := by decide +kernel
theorem dJ6_bitCount_0f7a4_4 : decode cJ6_bitCount_0f7a4 4 = .ok (.ldc_w 265, 3) := by decide +kernel
theorem dJ6_bitCount_0f7a4_7 : decode cJ6_bitCount_0f7a4 7 = .ok (.iand, 1) := by decide +kernel
theorem dJ6_bitCount_0f7a4_8 : decode cJ6_bitCount_0f7a4 8 = .ok (.isub, 1) := by decide +kernel
theorem dJ6_bitCount_0f7a4_9 : decode cJ6_bitCount_0f7a4 9 = .ok (.istore_n 0, 1) := by decide +kernel
theorem dJ6_bitCount_0f7a4_10 : decode cJ6_bitCount_0f7a4 10 = .ok (.iload_n 0, 1) := by decide +kernel
theorem dJ6_bitCount_0f7a4_11 : decode cJ6_bitCount_0f7a4 11 = .ok (.ldc_w 266, 3) := by decide +kernel
theorem dJ6_bitCount_0f7a4_14 : decode cJ6_bitCount_0f7a4 14 = .ok (.iand, 1) := by decide +kernel
theorem dJ6_bitCount_0f7a4_15 : decode cJ6_bitCount_0f7a4 15 = .ok (.iload_n 0, 1) := by decide +kernel
theorem dJ6_bitCount_0f7a4_16 : decode cJ6_bitCount_0f7a4 16 = .ok (.iconst 2, 1) := by decide +kernel
theorem dJ6_bitCount_0f7a4_17 : decode cJ6_bitCount_0f7a4 17 = .ok (.iushr, 1) := by decide +kernel
theorem dJ6_bitCount_0f7a4_18 : decode cJ6_bitCount_0f7a4 18 = .ok (.ldc_w 266, 3) := by decide +kernel
theorem dJ6_bitCount_0f7a4_21 : decode cJ6_bitCount_0f7a4 21 = .ok (.iand, 1) := by decide +kernel
theorem dJ6_bitCount_0f7a4_22 : decode cJ6_bitCount_0f7a4 22 = .ok (.iadd, 1) := by decide +kernel
theorem dJ6_bitCount_0f7a4_23 : decode cJ6_bitCount_0f7a4 23 = .ok (.istore_n 0, 1) := by decide +kernel
theorem dJ6_bitCount_0f7a4_24 : decode cJ6_bitCount_0f7a4 24 = .ok (.iload_n 0, 1) := by decide +kernel
theorem dJ6_bitCount_0f7a4_25 : decode cJ6_bitCount_0f7a4 25 = .ok (.iload_n 0, 1) := by decide +kernel
theorem dJ6_bitCount_0f7a4_26 : decode cJ6_bitCount_0f7a4 26 = .ok (.iconst 4, 1) := by decide +kernel
theorem dJ6_bitCount_0f7a4_27 : decode cJ6_bitCount_0f7a4 27 = .ok (.iushr, 1) := by decide +kernel
theorem dJ6_bitCount_0f7a4_28 : decode cJ6_bitCount_0f7a4 28 = .ok (.iadd, 1) := by decide +kernel
theorem dJ6_bitCount_0f7a4_29 : decode cJ6_bitCount_0f7a4 29 = .ok (.ldc_w 267, 3) := by decide +kernel
theorem dJ6_bitCount_0f7a4_32 : decode cJ6_bitCount_0f7a4 32 = .ok (.iand, 1) := by decide +kernel
theorem dJ6_bitCount_0f7a4_33 : decode cJ6_bitCount_0f7a4 33 = .ok (.istore_n 0, 1) := by decide +kernel
theorem dJ6_bitCount_0f7a4_34 : decode cJ6_bitCount_0f7a4 34 = .ok (.iload_n 0, 1) := by decide +kernel
theorem dJ6_bitCount_0f7a4_35 : decode cJ6_bitCount_0f7a4 35 = .ok (.iload_n 0, 1) := by decide +kernel
theorem dJ6_bitCount_0f7a4_36 : decode cJ6_bitCount_0f7a4 36 = .ok (.bipush 8, 2) := by decide +kernel
theorem dJ6_bitCount_0f7a4_38 : decode cJ6_bitCount_0f7a4 38 = .ok (.iushr, 1) := by decide +kernel
theorem dJ6_bitCount_0f7a4_39 : decode cJ6_bitCount_0f7a4 39 = .ok (.iadd, 1) := by decide +kernel
theorem dJ6_bitCount_0f7a4_40 : decode cJ6_bitCount_0f7a4 40 = .ok (.istore_n 0, 1) := by decide +kernel
theorem dJ6_bitCount_0f7a4_41 : decode cJ6_bitCount_0f7a4 41 = .ok (.iload_n 0, 1) := by decide +kernel
theorem dJ6_bitCount_0f7a4_42 : decode cJ6_bitCount_0f7a4 42 = .ok (.iload_n 0, 1) := by decide +kernel
theorem dJ6_bitCount_0f7a4_43 : decode cJ6_bitCount_0f7a4 43 = .ok (.bipush 16, 2) := by decide +kernel
theorem dJ6_bitCount_0f7a4_45 : decode cJ6_bitCount_0f7a4 45 = .ok (.iushr, 1) := by decide +kernel
theorem dJ6_bitCount_0f7a4_46 : decode cJ6_bitCount_0f7a4 46 = .ok (.iadd, 1) := by decide +kernel
theorem dJ6_bitCount_0f7a4_47 : decode cJ6_bitCount_0f7a4 47 = .ok (.istore_n 0, 1) := by decide +kernel
theorem dJ6_bitCount_0f7a4_48 : decode cJ6_bitCount_0f7a4 48 = .ok (.iload_n 0, 1) := by decide +kernel
theorem dJ6_bitCount_0f7a4_49 : decode cJ6_bitCount_0f7a4 49 = .ok (.bipush 63, 2) := by decide +kernel
theorem dJ6_bitCount_0f7a4_51 : decode cJ6_bitCount_0f7a4 51 = .ok (.iand, 1) := by decide +kernel
theorem dJ6_bitCount_0f7a4_52 : decode cJ6_bitCount_0f7a4 52 = .ok (.ireturn, 1) := by decide +kernel
theorem dJ9_floorMod_7cf53_0 : decode cJ9_floorMod_7cf53 0 = .ok (.iload_n 0, 1) := by decide +kernel
theorem dJ9_floorMod_7cf53_1 : decode cJ9_floorMod_7cf53 1 = .ok (.iload_n 1, 1) := by decide +kernel
theorem dJ9_floorMod_7cf53_2 : decode cJ9_floorMod_7cf53 2 = .ok (.irem, 1) := by decide +kernel
theorem dJ9_floorMod_7cf53_3 : decode cJ9_floorMod_7cf53 3 = .ok (.istore_n 2, 1) := by decide +kernel
theorem dJ9_floorMod_7cf53_4 : decode cJ9_floorMod_7cf53 4 = .ok (.iload_n 0, 1) := by decide +kernel
theorem dJ9_floorMod_7cf53_5 : decode cJ9_floorMod_7cf53 5 = .ok (.iload_n 1, 1) := by decide +kernel
theorem dJ9_floorMod_7cf53_6 : decode cJ9_floorMod_7cf53 6 = .ok (.ixor, 1) := by decide +kernel
theorem dJ9_floorMod_7cf53_7 : decode cJ9_floorMod_7cf53 7 = .ok (.ifCond .ge 11, 3) := by decide +kernel
theorem dJ9_floorMod_7cf53_10 : decode cJ9_floorMod_7cf53 10 = .ok (.iload_n 2, 1) := by decide +kernel
theorem dJ9_floorMod_7cf53_11 : decode cJ9_floorMod_7cf53 11 = .ok (.ifCond .eq 7, 3) := by decide +kernel
theorem dJ9_floorMod_7cf53_14 : decode cJ9_floorMod_7cf53 14 = .ok (.iload_n 2, 1) := by decide +kernel
theorem dJ9_floorMod_7cf53_15 : decode cJ9_floorMod_7cf53 15 = .ok (.iload_n 1, 1) := by decide +kernel
theorem dJ9_floorMod_7cf53_16 : decode cJ9_floorMod_7cf53 16 = .ok (.iadd, 1) := by decide +kernel
theorem dJ9_floorMod_7cf53_17 : decode cJ9_floorMod_7cf53 17 = .ok (.ireturn, 1) := by decide +kernel
theorem dJ9_floorMod_7cf53_18 : decode cJ9_floorMod_7cf53 18 = .ok (.iload_n 2, 1) := by decide +kernel
theorem dJ9_floorMod_7cf53_19 : decode cJ9_floorMod_7cf53 19 = .ok (.ireturn, 1) := by decide +kernel
theorem dJ9_abs_067f4_0 : decode cJ9_abs_067f4 0 = .ok (.lload_n 0, 1) := by decide +kernel
theorem dJ9_abs_067f4_1 : decode cJ9_abs_067f4 1 = .ok (.lconst 0, 1) := by decide +kernel
theorem dJ9_abs_067f4_2 : decode cJ9_abs_067f4 2 = .ok (.lcmp, 1) := by decide +kernel
theorem dJ9_abs_067f4_3 : decode cJ9_abs_067f4 3 = .ok (.ifCond .ge 8, 3) := by decide +kernel
theorem dJ9_abs_067f4_6 : decode cJ9_abs_067f4 6 = .ok (.lload_n 0, 1) := by decide +kernel
theorem dJ9_abs_067f4_7 : decode cJ9_abs_067f4 7 = .ok (.lneg, 1) := by decide +kernel
theorem dJ9_abs_067f4_8 : decode cJ9_abs_067f4 8 = .ok (.goto 4, 3) := by decide +kernel
theorem dJ9_abs_067f4_11 : decode cJ9_abs_067f4 11 = .ok (.lload_n 0, 1) := by decide +kernel
theorem dJ9_abs_067f4_12 : decode cJ9_abs_067f4 12 = .ok (.lreturn, 1) := by decide +kernel
theorem dJ9_max_7cf53_0 : decode cJ9_max_7cf53 0 = .ok (.iload_n 0, 1) := by decide +kernel
theorem dJ9_max_7cf53_1 : decode cJ9_max_7cf53 1 = .ok (.iload_n 1, 1) := by decide +kernel
theorem dJ9_max_7cf53_2 : decode cJ9_max_7cf53 2 = .ok (.if_icmp .lt 7, 3) := by decide +kernel
theorem dJ9_max_7cf53_5 : decode cJ9_max_7cf53 5 = .ok (.iload_n 0, 1) := by decide +kernel
theorem dJ9_max_7cf53_6 : decode cJ9_max_7cf53 6 = .ok (.goto 4, 3) := by decide +kernel
theorem dJ9_max_7cf53_9 : decode cJ9_max_7cf53 9 = .ok (.iload_n 1, 1) := by decide +kernel
theorem dJ9_max_7cf53_10 : decode cJ9_max_7cf53 10 = .ok (.ireturn, 1) := by decide +kernel
theorem dJ9_max_f86c9_0 : decode cJ9_max_f86c9 0 = .ok (.lload_n 0, 1) := by decide +kernel
theorem dJ9_max_f86c9_1 : decode cJ9_max_f86c9 1 = .ok (.lload_n 2, 1) := by decide +kernel
theorem dJ9_max_f86c9_2 : decode cJ9_max_f86c9 2 = .ok (.lcmp, 1) := by decide +kernel
theorem dJ9_max_f86c9_3 : decode cJ9_max_f86c9 3 = .ok (.ifCond .lt 7, 3) := by decide +kernel
theorem dJ9_max_f86c9_6 : decode cJ9_max_f86c9 6 = .ok (.lload_n 0, 1) := by decide +kernel
theorem dJ9_max_f86c9_7 : decode cJ9_max_f86c9 7 = .ok (.goto 4, 3) := by decide +kernel
theorem dJ9_max_f86c9_10 : decode cJ9_max_f86c9 10 = .ok (.lload_n 2, 1) := by decide +kernel
theorem dJ9_max_f86c9_11 : decode cJ9_max_f86c9 11 = .ok (.lreturn, 1) := by decide +kernel
theorem dJ9_min_7cf53_0 : decode cJ9_min_7cf53 0 = .ok (.iload_n 0, 1) := by decide +kernel
theorem dJ9_min_7cf53_1 : decode cJ9_min_7cf53 1 = .ok (.iload_n 1, 1) := by decide +kernel
theorem dJ9_min_7cf53_2 : decode cJ9_min_7cf53 2 = .ok (.if_icmp .gt 7, 3) := by decide +kernel
theorem dJ9_min_7cf53_5 : decode cJ9_min_7cf53 5 = .ok (.iload_n 0, 1) := by decide +kernel
theorem dJ9_min_7cf53_6 : decode cJ9_min_7cf53 6 = .ok (.goto 4, 3) := by decide +kernel
theorem dJ9_min_7cf53_9 : decode cJ9_min_7cf53 9 = .ok (.iload_n 1, 1) := by decide +kernel
theorem dJ9_min_7cf53_10 : decode cJ9_min_7cf53 10 = .ok (.ireturn, 1) := by decide +kernel
theorem dJ7_fill_53178_0 : decode cJ7_fill_53178 0 = .ok (.iconst 0, 1) := by decide +kernel
theorem dJ7_fill_53178_1 : decode cJ7_fill_53178 1 = .ok (.istore_n 2, 1) := by decide +kernel
theorem dJ7_fill_53178_2 : decode cJ7_fill_53178 2 = .ok (.aload_n 0, 1) := by decide +kernel
theorem dJ7_fill_53178_3 : decode cJ7_fill_53178 3 = .ok (.arraylength, 1) := by decide +kernel
theorem dJ7_fill_53178_4 : decode cJ7_fill_53178 4 = .ok (.istore_n 3, 1) := by decide +kernel
theorem dJ7_fill_53178_5 : decode cJ7_fill_53178 5 = .ok (.iload_n 2, 1) := by decide +kernel
theorem dJ7_fill_53178_6 : decode cJ7_fill_53178 6 = .ok (.iload_n 3, 1) := by decide +kernel
theorem dJ7_fill_53178_7 : decode cJ7_fill_53178 7 = .ok (.if_icmp .ge 13, 3) := by decide +kernel
theorem dJ7_fill_53178_10 : decode cJ7_fill_53178 10 = .ok (.aload_n 0, 1) := by decide +kernel
theorem dJ7_fill_53178_11 : decode cJ7_fill_53178 11 = .ok (.iload_n 2, 1) := by decide +kernel
theorem dJ7_fill_53178_12 : decode cJ7_fill_53178 12 = .ok (.iload_n 1, 1) := by decide +kernel
theorem dJ7_fill_53178_13 : decode cJ7_fill_53178 13 = .ok (.iastore, 1) := by decide +kernel
theorem dJ7_fill_53178_14 : decode cJ7_fill_53178 14 = .ok (.iinc 2 1, 3) := by decide +kernel
theorem dJ7_fill_53178_17 : decode cJ7_fill_53178 17 = .ok (.goto (-12), 3) := by decide +kernel
theorem dJ7_fill_53178_20 : decode cJ7_fill_53178 20 = .ok (.return_, 1) := by decide +kernel
theorem dL_law_0 : decode cL_law 0 = .ok (.new 7, 3) := by decide +kernel
theorem dL_law_3 : decode cL_law 3 = .ok (.dup, 1) := by decide +kernel
theorem dL_law_4 : decode cL_law 4 = .ok (.invokespecial 9, 3) := by decide +kernel
theorem dL_law_7 : decode cL_law 7 = .ok (.astore_n 1, 1) := by decide +kernel
theorem dL_law_8 : decode cL_law 8 = .ok (.new 10, 3) := by decide +kernel
theorem dL_law_11 : decode cL_law 11 = .ok (.dup, 1) := by decide +kernel
theorem dL_law_12 : decode cL_law 12 = .ok (.invokespecial 12, 3) := by decide +kernel
theorem dL_law_15 : decode cL_law 15 = .ok (.astore_n 2, 1) := by decide +kernel
theorem dL_law_16 : decode cL_law 16 = .ok (.iconst 0, 1) := by decide +kernel
theorem dL_law_17 : decode cL_law 17 = .ok (.istore_n 3, 1) := by decide +kernel
theorem dL_law_18 : decode cL_law 18 = .ok (.iload_n 3, 1) := by decide +kernel
theorem dL_law_19 : decode cL_law 19 = .ok (.aload_n 0, 1) := by decide +kernel
theorem dL_law_20 : decode cL_law 20 = .ok (.arraylength, 1) := by decide +kernel
theorem dL_law_21 : decode cL_law 21 = .ok (.bipush 7, 2) := by decide +kernel
theorem dL_law_23 : decode cL_law 23 = .ok (.isub, 1) := by decide +kernel
theorem dL_law_24 : decode cL_law 24 = .ok (.if_icmp .gt 764, 3) := by decide +kernel
theorem dL_law_27 : decode cL_law 27 = .ok (.aload_n 0, 1) := by decide +kernel
theorem dL_law_28 : decode cL_law 28 = .ok (.iload_n 3, 1) := by decide +kernel
theorem dL_law_29 : decode cL_law 29 = .ok (.iaload, 1) := by decide +kernel
theorem dL_law_30 : decode cL_law 30 = .ok (.bipush 31, 2) := by decide +kernel
theorem dL_law_32 : decode cL_law 32 = .ok (.iand, 1) := by decide +kernel
theorem dL_law_33 : decode cL_law 33 = .ok (.tableswitch 749 0 19 #[95, 118, 151, 194, 217, 292, 315, 348, 381, 414, 437, 460, 504, 538, 581, 624, 667, 680, 703, 726], 95) := by decide +kernel
theorem dL_law_128 : decode cL_law 128 = .ok (.aload_n 1, 1) := by decide +kernel
theorem dL_law_129 : decode cL_law 129 = .ok (.aload_n 0, 1) := by decide +kernel
theorem dL_law_130 : decode cL_law 130 = .ok (.iload_n 3, 1) := by decide +kernel
theorem dL_law_131 : decode cL_law 131 = .ok (.iconst 1, 1) := by decide +kernel
theorem dL_law_132 : decode cL_law 132 = .ok (.iadd, 1) := by decide +kernel
theorem dL_law_133 : decode cL_law 133 = .ok (.iaload, 1) := by decide +kernel
theorem dL_law_134 : decode cL_law 134 = .ok (.invokevirtual 13, 3) := by decide +kernel
theorem dL_law_137 : decode cL_law 137 = .ok (.aload_n 2, 1) := by decide +kernel
theorem dL_law_138 : decode cL_law 138 = .ok (.aload_n 0, 1) := by decide +kernel
theorem dL_law_139 : decode cL_law 139 = .ok (.iload_n 3, 1) := by decide +kernel
theorem dL_law_140 : decode cL_law 140 = .ok (.iconst 1, 1) := by decide +kernel
theorem dL_law_141 : decode cL_law 141 = .ok (.iadd, 1) := by decide +kernel
theorem dL_law_142 : decode cL_law 142 = .ok (.iaload, 1) := by decide +kernel
theorem dL_law_143 : decode cL_law 143 = .ok (.invokevirtual 17, 3) := by decide +kernel
theorem dL_law_146 : decode cL_law 146 = .ok (.if_icmp .eq 636, 3) := by decide +kernel
theorem dL_law_149 : decode cL_law 149 = .ok (.iconst 0, 1) := by decide +kernel
theorem dL_law_150 : decode cL_law 150 = .ok (.ireturn, 1) := by decide +kernel
theorem dL_law_151 : decode cL_law 151 = .ok (.aload_n 1, 1) := by decide +kernel
theorem dL_law_152 : decode cL_law 152 = .ok (.aload_n 0, 1) := by decide +kernel
theorem dL_law_153 : decode cL_law 153 = .ok (.iload_n 3, 1) := by decide +kernel
theorem dL_law_154 : decode cL_law 154 = .ok (.iconst 1, 1) := by decide +kernel
theorem dL_law_155 : decode cL_law 155 = .ok (.iadd, 1) := by decide +kernel
theorem dL_law_156 : decode cL_law 156 = .ok (.iaload, 1) := by decide +kernel
theorem dL_law_157 : decode cL_law 157 = .ok (.aload_n 0, 1) := by decide +kernel
theorem dL_law_158 : decode cL_law 158 = .ok (.iload_n 3, 1) := by decide +kernel
theorem dL_law_159 : decode cL_law 159 = .ok (.iconst 2, 1) := by decide +kernel
theorem dL_law_160 : decode cL_law 160 = .ok (.iadd, 1) := by decide +kernel
theorem dL_law_161 : decode cL_law 161 = .ok (.iaload, 1) := by decide +kernel
theorem dL_law_162 : decode cL_law 162 = .ok (.invokevirtual 18, 3) := by decide +kernel
theorem dL_law_165 : decode cL_law 165 = .ok (.aload_n 2, 1) := by decide +kernel
theorem dL_law_166 : decode cL_law 166 = .ok (.aload_n 0, 1) := by decide +kernel
theorem dL_law_167 : decode cL_law 167 = .ok (.iload_n 3, 1) := by decide +kernel
theorem dL_law_168 : decode cL_law 168 = .ok (.iconst 1, 1) := by decide +kernel
theorem dL_law_169 : decode cL_law 169 = .ok (.iadd, 1) := by decide +kernel
theorem dL_law_170 : decode cL_law 170 = .ok (.iaload, 1) := by decide +kernel
theorem dL_law_171 : decode cL_law 171 = .ok (.aload_n 0, 1) := by decide +kernel
theorem dL_law_172 : decode cL_law 172 = .ok (.iload_n 3, 1) := by decide +kernel
theorem dL_law_173 : decode cL_law 173 = .ok (.iconst 2, 1) := by decide +kernel
theorem dL_law_174 : decode cL_law 174 = .ok (.iadd, 1) := by decide +kernel
theorem dL_law_175 : decode cL_law 175 = .ok (.iaload, 1) := by decide +kernel
theorem dL_law_176 : decode cL_law 176 = .ok (.invokevirtual 22, 3) := by decide +kernel
theorem dL_law_179 : decode cL_law 179 = .ok (.if_icmp .eq 603, 3) := by decide +kernel
theorem dL_law_182 : decode cL_law 182 = .ok (.iconst 0, 1) := by decide +kernel
theorem dL_law_183 : decode cL_law 183 = .ok (.ireturn, 1) := by decide +kernel
theorem dL_law_184 : decode cL_law 184 = .ok (.aload_n 1, 1) := by decide +kernel
theorem dL_law_185 : decode cL_law 185 = .ok (.aload_n 0, 1) := by decide +kernel
theorem dL_law_186 : decode cL_law 186 = .ok (.iload_n 3, 1) := by decide +kernel
theorem dL_law_187 : decode cL_law 187 = .ok (.iconst 1, 1) := by decide +kernel
theorem dL_law_188 : decode cL_law 188 = .ok (.iadd, 1) := by decide +kernel
theorem dL_law_189 : decode cL_law 189 = .ok (.iaload, 1) := by decide +kernel
theorem dL_law_190 : decode cL_law 190 = .ok (.aload_n 0, 1) := by decide +kernel
theorem dL_law_191 : decode cL_law 191 = .ok (.iload_n 3, 1) := by decide +kernel
theorem dL_law_192 : decode cL_law 192 = .ok (.iconst 2, 1) := by decide +kernel
theorem dL_law_193 : decode cL_law 193 = .ok (.iadd, 1) := by decide +kernel
theorem dL_law_194 : decode cL_law 194 = .ok (.iaload, 1) := by decide +kernel
theorem dL_law_195 : decode cL_law 195 = .ok (.aload_n 0, 1) := by decide +kernel
theorem dL_law_196 : decode cL_law 196 = .ok (.iload_n 3, 1) := by decide +kernel
theorem dL_law_197 : decode cL_law 197 = .ok (.iconst 3, 1) := by decide +kernel
theorem dL_law_198 : decode cL_law 198 = .ok (.iadd, 1) := by decide +kernel
theorem dL_law_199 : decode cL_law 199 = .ok (.iaload, 1) := by decide +kernel
theorem dL_law_200 : decode cL_law 200 = .ok (.invokevirtual 23, 3) := by decide +kernel
theorem dL_law_203 : decode cL_law 203 = .ok (.aload_n 2, 1) := by decide +kernel
theorem dL_law_204 : decode cL_law 204 = .ok (.aload_n 0, 1) := by decide +kernel
theorem dL_law_205 : decode cL_law 205 = .ok (.iload_n 3, 1) := by decide +kernel
theorem dL_law_206 : decode cL_law 206 = .ok (.iconst 1, 1) := by decide +kernel
theorem dL_law_207 : decode cL_law 207 = .ok (.iadd, 1) := by decide +kernel
theorem dL_law_208 : decode cL_law 208 = .ok (.iaload, 1) := by decide +kernel
theorem dL_law_209 : decode cL_law 209 = .ok (.aload_n 0, 1) := by decide +kernel
theorem dL_law_210 : decode cL_law 210 = .ok (.iload_n 3, 1) := by decide +kernel
theorem dL_law_211 : decode cL_law 211 = .ok (.iconst 2, 1) := by decide +kernel
theorem dL_law_212 : decode cL_law 212 = .ok (.iadd, 1) := by decide +kernel
theorem dL_law_213 : decode cL_law 213 = .ok (.iaload, 1) := by decide +kernel
theorem dL_law_214 : decode cL_law 214 = .ok (.aload_n 0, 1) := by decide +kernel
theorem dL_law_215 : decode cL_law 215 = .ok (.iload_n 3, 1) := by decide +kernel
theorem dL_law_216 : decode cL_law 216 = .ok (.iconst 3, 1) := by decide +kernel
theorem dL_law_217 : decode cL_law 217 = .ok (.iadd, 1) := by decide +kernel
theorem dL_law_218 : decode cL_law 218 = .ok (.iaload, 1) := by decide +kernel
theorem dL_law_219 : decode cL_law 219 = .ok (.invokevirtual 27, 3) := by decide +kernel
theorem dL_law_222 : decode cL_law 222 = .ok (.if_icmp .eq 560, 3) := by decide +kernel
theorem dL_law_225 : decode cL_law 225 = .ok (.iconst 0, 1) := by decide +kernel
theorem dL_law_226 : decode cL_law 226 = .ok (.ireturn, 1) := by decide +kernel
theorem dL_law_227 : decode cL_law 227 = .ok (.aload_n 1, 1) := by decide +kernel
theorem dL_law_228 : decode cL_law 228 = .ok (.aload_n 0, 1) := by decide +kernel
theorem dL_law_229 : decode cL_law 229 = .ok (.iload_n 3, 1) := by decide +kernel
theorem dL_law_230 : decode cL_law 230 = .ok (.iconst 1, 1) := by decide +kernel
theorem dL_law_231 : decode cL_law 231 = .ok (.iadd, 1) := by decide +kernel
theorem dL_law_232 : decode cL_law 232 = .ok (.iaload, 1) := by decide +kernel
theorem dL_law_233 : decode cL_law 233 = .ok (.invokevirtual 28, 3) := by decide +kernel
theorem dL_law_236 : decode cL_law 236 = .ok (.aload_n 2, 1) := by decide +kernel
theorem dL_law_237 : decode cL_law 237 = .ok (.aload_n 0, 1) := by decide +kernel
theorem dL_law_238 : decode cL_law 238 = .ok (.iload_n 3, 1) := by decide +kernel
theorem dL_law_239 : decode cL_law 239 = .ok (.iconst 1, 1) := by decide +kernel
theorem dL_law_240 : decode cL_law 240 = .ok (.iadd, 1) := by decide +kernel
theorem dL_law_241 : decode cL_law 241 = .ok (.iaload, 1) := by decide +kernel
theorem dL_law_242 : decode cL_law 242 = .ok (.invokevirtual 31, 3) := by decide +kernel
theorem dL_law_245 : decode cL_law 245 = .ok (.if_icmp .eq 537, 3) := by decide +kernel
theorem dL_law_248 : decode cL_law 248 = .ok (.iconst 0, 1) := by decide +kernel
theorem dL_law_249 : decode cL_law 249 = .ok (.ireturn, 1) := by decide +kernel
theorem dL_law_250 : decode cL_law 250 = .ok (.aload_n 1, 1) := by decide +kernel
theorem dL_law_251 : decode cL_law 251 = .ok (.aload_n 0, 1) := by decide +kernel
theorem dL_law_252 : decode cL_law 252 = .ok (.iload_n 3, 1) := by decide +kernel
theorem dL_law_253 : decode cL_law 253 = .ok (.iconst 1, 1) := by decide +kernel
theorem dL_law_254 : decode cL_law 254 = .ok (.iadd, 1) := by decide +kernel
theorem dL_law_255 : decode cL_law 255 = .ok (.iaload, 1) := by decide +kernel
theorem dL_law_256 : decode cL_law 256 = .ok (.aload_n 0, 1) := by decide +kernel
theorem dL_law_257 : decode cL_law 257 = .ok (.iload_n 3, 1) := by decide +kernel
theorem dL_law_258 : decode cL_law 258 = .ok (.iconst 2, 1) := by decide +kernel
theorem dL_law_259 : decode cL_law 259 = .ok (.iadd, 1) := by decide +kernel
theorem dL_law_260 : decode cL_law 260 = .ok (.iaload, 1) := by decide +kernel
theorem dL_law_261 : decode cL_law 261 = .ok (.aload_n 0, 1) := by decide +kernel
theorem dL_law_262 : decode cL_law 262 = .ok (.iload_n 3, 1) := by decide +kernel
theorem dL_law_263 : decode cL_law 263 = .ok (.iconst 3, 1) := by decide +kernel
theorem dL_law_264 : decode cL_law 264 = .ok (.iadd, 1) := by decide +kernel
theorem dL_law_265 : decode cL_law 265 = .ok (.iaload, 1) := by decide +kernel
theorem dL_law_266 : decode cL_law 266 = .ok (.aload_n 0, 1) := by decide +kernel
theorem dL_law_267 : decode cL_law 267 = .ok (.iload_n 3, 1) := by decide +kernel
theorem dL_law_268 : decode cL_law 268 = .ok (.iconst 4, 1) := by decide +kernel
theorem dL_law_269 : decode cL_law 269 = .ok (.iadd, 1) := by decide +kernel
theorem dL_law_270 : decode cL_law 270 = .ok (.iaload, 1) := by decide +kernel
theorem dL_law_271 : decode cL_law 271 = .ok (.aload_n 0, 1) := by decide +kernel
theorem dL_law_272 : decode cL_law 272 = .ok (.iload_n 3, 1) := by decide +kernel
theorem dL_law_273 : decode cL_law 273 = .ok (.iconst 5, 1) := by decide +kernel
theorem dL_law_274 : decode cL_law 274 = .ok (.iadd, 1) := by decide +kernel
theorem dL_law_275 : decode cL_law 275 = .ok (.iaload, 1) := by decide +kernel
theorem dL_law_276 : decode cL_law 276 = .ok (.aload_n 0, 1) := by decide +kernel
theorem dL_law_277 : decode cL_law 277 = .ok (.iload_n 3, 1) := by decide +kernel
theorem dL_law_278 : decode cL_law 278 = .ok (.bipush 6, 2) := by decide +kernel
theorem dL_law_280 : decode cL_law 280 = .ok (.iadd, 1) := by decide +kernel
theorem dL_law_281 : decode cL_law 281 = .ok (.iaload, 1) := by decide +kernel
theorem dL_law_282 : decode cL_law 282 = .ok (.invokevirtual 32, 3) := by decide +kernel
theorem dL_law_285 : decode cL_law 285 = .ok (.aload_n 2, 1) := by decide +kernel
theorem dL_law_286 : decode cL_law 286 = .ok (.aload_n 0, 1) := by decide +kernel
theorem dL_law_287 : decode cL_law 287 = .ok (.iload_n 3, 1) := by decide +kernel
theorem dL_law_288 : decode cL_law 288 = .ok (.iconst 1, 1) := by decide +kernel
theorem dL_law_289 : decode cL_law 289 = .ok (.iadd, 1) := by decide +kernel
theorem dL_law_290 : decode cL_law 290 = .ok (.iaload, 1) := by decide +kernel
theorem dL_law_291 : decode cL_law 291 = .ok (.aload_n 0, 1) := by decide +kernel
theorem dL_law_292 : decode cL_law 292 = .ok (.iload_n 3, 1) := by decide +kernel
theorem dL_law_293 : decode cL_law 293 = .ok (.iconst 2, 1) := by decide +kernel
theorem dL_law_294 : decode cL_law 294 = .ok (.iadd, 1) := by decide +kernel
theorem dL_law_295 : decode cL_law 295 = .ok (.iaload, 1) := by decide +kernel
theorem dL_law_296 : decode cL_law 296 = .ok (.aload_n 0, 1) := by decide +kernel
theorem dL_law_297 : decode cL_law 297 = .ok (.iload_n 3, 1) := by decide +kernel
theorem dL_law_298 : decode cL_law 298 = .ok (.iconst 3, 1) := by decide +kernel
theorem dL_law_299 : decode cL_law 299 = .ok (.iadd, 1) := by decide +kernel
theorem dL_law_300 : decode cL_law 300 = .ok (.iaload, 1) := by decide +kernel
theorem dL_law_301 : decode cL_law 301 = .ok (.aload_n 0, 1) := by decide +kernel
theorem dL_law_302 : decode cL_law 302 = .ok (.iload_n 3, 1) := by decide +kernel
theorem dL_law_303 : decode cL_law 303 = .ok (.iconst 4, 1) := by decide +kernel
theorem dL_law_304 : decode cL_law 304 = .ok (.iadd, 1) := by decide +kernel
theorem dL_law_305 : decode cL_law 305 = .ok (.iaload, 1) := by decide +kernel
theorem dL_law_306 : decode cL_law 306 = .ok (.aload_n 0, 1) := by decide +kernel
theorem dL_law_307 : decode cL_law 307 = .ok (.iload_n 3, 1) := by decide +kernel
theorem dL_law_308 : decode cL_law 308 = .ok (.iconst 5, 1) := by decide +kernel
theorem dL_law_309 : decode cL_law 309 = .ok (.iadd, 1) := by decide +kernel
theorem dL_law_310 : decode cL_law 310 = .ok (.iaload, 1) := by decide +kernel
theorem dL_law_311 : decode cL_law 311 = .ok (.aload_n 0, 1) := by decide +kernel
theorem dL_law_312 : decode cL_law 312 = .ok (.iload_n 3, 1) := by decide +kernel
theorem dL_law_313 : decode cL_law 313 = .ok (.bipush 6, 2) := by decide +kernel
theorem dL_law_315 : decode cL_law 315 = .ok (.iadd, 1) := by decide +kernel
theorem dL_law_316 : decode cL_law 316 = .ok (.iaload, 1) := by decide +kernel
theorem dL_law_317 : decode cL_law 317 = .ok (.invokevirtual 36, 3) := by decide +kernel
theorem dL_law_320 : decode cL_law 320 = .ok (.if_icmp .eq 462, 3) := by decide +kernel
theorem dL_law_323 : decode cL_law 323 = .ok (.iconst 0, 1) := by decide +kernel
theorem dL_law_324 : decode cL_law 324 = .ok (.ireturn, 1) := by decide +kernel
theorem dL_law_325 : decode cL_law 325 = .ok (.aload_n 1, 1) := by decide +kernel
theorem dL_law_326 : decode cL_law 326 = .ok (.aload_n 0, 1) := by decide +kernel
theorem dL_law_327 : decode cL_law 327 = .ok (.iload_n 3, 1) := by decide +kernel
theorem dL_law_328 : decode cL_law 328 = .ok (.iconst 1, 1) := by decide +kernel
theorem dL_law_329 : decode cL_law 329 = .ok (.iadd, 1) := by decide +kernel
theorem dL_law_330 : decode cL_law 330 = .ok (.iaload, 1) := by decide +kernel
theorem dL_law_331 : decode cL_law 331 = .ok (.invokevirtual 37, 3) := by decide +kernel
theorem dL_law_334 : decode cL_law 334 = .ok (.aload_n 2, 1) := by decide +kernel
theorem dL_law_335 : decode cL_law 335 = .ok (.aload_n 0, 1) := by decide +kernel
theorem dL_law_336 : decode cL_law 336 = .ok (.iload_n 3, 1) := by decide +kernel
theorem dL_law_337 : decode cL_law 337 = .ok (.iconst 1, 1) := by decide +kernel
theorem dL_law_338 : decode cL_law 338 = .ok (.iadd, 1) := by decide +kernel
theorem dL_law_339 : decode cL_law 339 = .ok (.iaload, 1) := by decide +kernel
theorem dL_law_340 : decode cL_law 340 = .ok (.invokevirtual 40, 3) := by decide +kernel
theorem dL_law_343 : decode cL_law 343 = .ok (.if_icmp .eq 439, 3) := by decide +kernel
theorem dL_law_346 : decode cL_law 346 = .ok (.iconst 0, 1) := by decide +kernel
theorem dL_law_347 : decode cL_law 347 = .ok (.ireturn, 1) := by decide +kernel
theorem dL_law_348 : decode cL_law 348 = .ok (.aload_n 1, 1) := by decide +kernel
theorem dL_law_349 : decode cL_law 349 = .ok (.aload_n 0, 1) := by decide +kernel
theorem dL_law_350 : decode cL_law 350 = .ok (.iload_n 3, 1) := by decide +kernel
theorem dL_law_351 : decode cL_law 351 = .ok (.iconst 1, 1) := by decide +kernel
theorem dL_law_352 : decode cL_law 352 = .ok (.iadd, 1) := by decide +kernel
theorem dL_law_353 : decode cL_law 353 = .ok (.iaload, 1) := by decide +kernel
theorem dL_law_354 : decode cL_law 354 = .ok (.aload_n 0, 1) := by decide +kernel
theorem dL_law_355 : decode cL_law 355 = .ok (.iload_n 3, 1) := by decide +kernel
theorem dL_law_356 : decode cL_law 356 = .ok (.iconst 2, 1) := by decide +kernel
theorem dL_law_357 : decode cL_law 357 = .ok (.iadd, 1) := by decide +kernel
theorem dL_law_358 : decode cL_law 358 = .ok (.iaload, 1) := by decide +kernel
theorem dL_law_359 : decode cL_law 359 = .ok (.invokevirtual 41, 3) := by decide +kernel
theorem dL_law_362 : decode cL_law 362 = .ok (.aload_n 2, 1) := by decide +kernel
theorem dL_law_363 : decode cL_law 363 = .ok (.aload_n 0, 1) := by decide +kernel
theorem dL_law_364 : decode cL_law 364 = .ok (.iload_n 3, 1) := by decide +kernel
theorem dL_law_365 : decode cL_law 365 = .ok (.iconst 1, 1) := by decide +kernel
theorem dL_law_366 : decode cL_law 366 = .ok (.iadd, 1) := by decide +kernel
theorem dL_law_367 : decode cL_law 367 = .ok (.iaload, 1) := by decide +kernel
theorem dL_law_368 : decode cL_law 368 = .ok (.aload_n 0, 1) := by decide +kernel
theorem dL_law_369 : decode cL_law 369 = .ok (.iload_n 3, 1) := by decide +kernel
theorem dL_law_370 : decode cL_law 370 = .ok (.iconst 2, 1) := by decide +kernel
theorem dL_law_371 : decode cL_law 371 = .ok (.iadd, 1) := by decide +kernel
theorem dL_law_372 : decode cL_law 372 = .ok (.iaload, 1) := by decide +kernel
theorem dL_law_373 : decode cL_law 373 = .ok (.invokevirtual 44, 3) := by decide +kernel
theorem dL_law_376 : decode cL_law 376 = .ok (.if_icmp .eq 406, 3) := by decide +kernel
theorem dL_law_379 : decode cL_law 379 = .ok (.iconst 0, 1) := by decide +kernel
theorem dL_law_380 : decode cL_law 380 = .ok (.ireturn, 1) := by decide +kernel
theorem dL_law_381 : decode cL_law 381 = .ok (.aload_n 1, 1) := by decide +kernel
theorem dL_law_382 : decode cL_law 382 = .ok (.aload_n 0, 1) := by decide +kernel
theorem dL_law_383 : decode cL_law 383 = .ok (.iload_n 3, 1) := by decide +kernel
theorem dL_law_384 : decode cL_law 384 = .ok (.iconst 1, 1) := by decide +kernel
theorem dL_law_385 : decode cL_law 385 = .ok (.iadd, 1) := by decide +kernel
theorem dL_law_386 : decode cL_law 386 = .ok (.iaload, 1) := by decide +kernel
theorem dL_law_387 : decode cL_law 387 = .ok (.aload_n 0, 1) := by decide +kernel
theorem dL_law_388 : decode cL_law 388 = .ok (.iload_n 3, 1) := by decide +kernel
theorem dL_law_389 : decode cL_law 389 = .ok (.iconst 2, 1) := by decide +kernel
theorem dL_law_390 : decode cL_law 390 = .ok (.iadd, 1) := by decide +kernel
theorem dL_law_391 : decode cL_law 391 = .ok (.iaload, 1) := by decide +kernel
theorem dL_law_392 : decode cL_law 392 = .ok (.invokevirtual 45, 3) := by decide +kernel
theorem dL_law_395 : decode cL_law 395 = .ok (.aload_n 2, 1) := by decide +kernel
theorem dL_law_396 : decode cL_law 396 = .ok (.aload_n 0, 1) := by decide +kernel
theorem dL_law_397 : decode cL_law 397 = .ok (.iload_n 3, 1) := by decide +kernel
theorem dL_law_398 : decode cL_law 398 = .ok (.iconst 1, 1) := by decide +kernel
theorem dL_law_399 : decode cL_law 399 = .ok (.iadd, 1) := by decide +kernel
theorem dL_law_400 : decode cL_law 400 = .ok (.iaload, 1) := by decide +kernel
theorem dL_law_401 : decode cL_law 401 = .ok (.aload_n 0, 1) := by decide +kernel
theorem dL_law_402 : decode cL_law 402 = .ok (.iload_n 3, 1) := by decide +kernel
theorem dL_law_403 : decode cL_law 403 = .ok (.iconst 2, 1) := by decide +kernel
theorem dL_law_404 : decode cL_law 404 = .ok (.iadd, 1) := by decide +kernel
theorem dL_law_405 : decode cL_law 405 = .ok (.iaload, 1) := by decide +kernel
theorem dL_law_406 : decode cL_law 406 = .ok (.invokevirtual 48, 3) := by decide +kernel
theorem dL_law_409 : decode cL_law 409 = .ok (.if_icmp .eq 373, 3) := by decide +kernel
theorem dL_law_412 : decode cL_law 412 = .ok (.iconst 0, 1) := by decide +kernel
theorem dL_law_413 : decode cL_law 413 = .ok (.ireturn, 1) := by decide +kernel
theorem dL_law_414 : decode cL_law 414 = .ok (.aload_n 1, 1) := by decide +kernel
theorem dL_law_415 : decode cL_law 415 = .ok (.aload_n 0, 1) := by decide +kernel
theorem dL_law_416 : decode cL_law 416 = .ok (.iload_n 3, 1) := by decide +kernel
theorem dL_law_417 : decode cL_law 417 = .ok (.iconst 1, 1) := by decide +kernel
theorem dL_law_418 : decode cL_law 418 = .ok (.iadd, 1) := by decide +kernel
theorem dL_law_419 : decode cL_law 419 = .ok (.iaload, 1) := by decide +kernel
theorem dL_law_420 : decode cL_law 420 = .ok (.aload_n 0, 1) := by decide +kernel
theorem dL_law_421 : decode cL_law 421 = .ok (.iload_n 3, 1) := by decide +kernel
theorem dL_law_422 : decode cL_law 422 = .ok (.iconst 2, 1) := by decide +kernel
theorem dL_law_423 : decode cL_law 423 = .ok (.iadd, 1) := by decide +kernel
theorem dL_law_424 : decode cL_law 424 = .ok (.iaload, 1) := by decide +kernel
theorem dL_law_425 : decode cL_law 425 = .ok (.invokevirtual 49, 3) := by decide +kernel
theorem dL_law_428 : decode cL_law 428 = .ok (.aload_n 2, 1) := by decide +kernel
theorem dL_law_429 : decode cL_law 429 = .ok (.aload_n 0, 1) := by decide +kernel
theorem dL_law_430 : decode cL_law 430 = .ok (.iload_n 3, 1) := by decide +kernel
theorem dL_law_431 : decode cL_law 431 = .ok (.iconst 1, 1) := by decide +kernel
theorem dL_law_432 : decode cL_law 432 = .ok (.iadd, 1) := by decide +kernel
theorem dL_law_433 : decode cL_law 433 = .ok (.iaload, 1) := by decide +kernel
theorem dL_law_434 : decode cL_law 434 = .ok (.aload_n 0, 1) := by decide +kernel
theorem dL_law_435 : decode cL_law 435 = .ok (.iload_n 3, 1) := by decide +kernel
theorem dL_law_436 : decode cL_law 436 = .ok (.iconst 2, 1) := by decide +kernel
theorem dL_law_437 : decode cL_law 437 = .ok (.iadd, 1) := by decide +kernel
theorem dL_law_438 : decode cL_law 438 = .ok (.iaload, 1) := by decide +kernel
theorem dL_law_439 : decode cL_law 439 = .ok (.invokevirtual 52, 3) := by decide +kernel
theorem dL_law_442 : decode cL_law 442 = .ok (.if_icmp .eq 340, 3) := by decide +kernel
theorem dL_law_445 : decode cL_law 445 = .ok (.iconst 0, 1) := by decide +kernel
theorem dL_law_446 : decode cL_law 446 = .ok (.ireturn, 1) := by decide +kernel
theorem dL_law_447 : decode cL_law 447 = .ok (.aload_n 1, 1) := by decide +kernel
theorem dL_law_448 : decode cL_law 448 = .ok (.aload_n 0, 1) := by decide +kernel
theorem dL_law_449 : decode cL_law 449 = .ok (.iload_n 3, 1) := by decide +kernel
theorem dL_law_450 : decode cL_law 450 = .ok (.iconst 1, 1) := by decide +kernel
theorem dL_law_451 : decode cL_law 451 = .ok (.iadd, 1) := by decide +kernel
theorem dL_law_452 : decode cL_law 452 = .ok (.iaload, 1) := by decide +kernel
theorem dL_law_453 : decode cL_law 453 = .ok (.invokevirtual 53, 3) := by decide +kernel
theorem dL_law_456 : decode cL_law 456 = .ok (.aload_n 2, 1) := by decide +kernel
theorem dL_law_457 : decode cL_law 457 = .ok (.aload_n 0, 1) := by decide +kernel
theorem dL_law_458 : decode cL_law 458 = .ok (.iload_n 3, 1) := by decide +kernel
theorem dL_law_459 : decode cL_law 459 = .ok (.iconst 1, 1) := by decide +kernel
theorem dL_law_460 : decode cL_law 460 = .ok (.iadd, 1) := by decide +kernel
theorem dL_law_461 : decode cL_law 461 = .ok (.iaload, 1) := by decide +kernel
theorem dL_law_462 : decode cL_law 462 = .ok (.invokevirtual 56, 3) := by decide +kernel
theorem dL_law_465 : decode cL_law 465 = .ok (.if_icmp .eq 317, 3) := by decide +kernel
theorem dL_law_468 : decode cL_law 468 = .ok (.iconst 0, 1) := by decide +kernel
theorem dL_law_469 : decode cL_law 469 = .ok (.ireturn, 1) := by decide +kernel
theorem dL_law_470 : decode cL_law 470 = .ok (.aload_n 1, 1) := by decide +kernel
theorem dL_law_471 : decode cL_law 471 = .ok (.aload_n 0, 1) := by decide +kernel
theorem dL_law_472 : decode cL_law 472 = .ok (.iload_n 3, 1) := by decide +kernel
theorem dL_law_473 : decode cL_law 473 = .ok (.iconst 1, 1) := by decide +kernel
theorem dL_law_474 : decode cL_law 474 = .ok (.iadd, 1) := by decide +kernel
theorem dL_law_475 : decode cL_law 475 = .ok (.iaload, 1) := by decide +kernel
theorem dL_law_476 : decode cL_law 476 = .ok (.invokevirtual 57, 3) := by decide +kernel
theorem dL_law_479 : decode cL_law 479 = .ok (.aload_n 2, 1) := by decide +kernel
theorem dL_law_480 : decode cL_law 480 = .ok (.aload_n 0, 1) := by decide +kernel
theorem dL_law_481 : decode cL_law 481 = .ok (.iload_n 3, 1) := by decide +kernel
theorem dL_law_482 : decode cL_law 482 = .ok (.iconst 1, 1) := by decide +kernel
theorem dL_law_483 : decode cL_law 483 = .ok (.iadd, 1) := by decide +kernel
theorem dL_law_484 : decode cL_law 484 = .ok (.iaload, 1) := by decide +kernel
theorem dL_law_485 : decode cL_law 485 = .ok (.invokevirtual 60, 3) := by decide +kernel
theorem dL_law_488 : decode cL_law 488 = .ok (.if_icmp .eq 294, 3) := by decide +kernel
theorem dL_law_491 : decode cL_law 491 = .ok (.iconst 0, 1) := by decide +kernel
theorem dL_law_492 : decode cL_law 492 = .ok (.ireturn, 1) := by decide +kernel
theorem dL_law_493 : decode cL_law 493 = .ok (.aload_n 1, 1) := by decide +kernel
theorem dL_law_494 : decode cL_law 494 = .ok (.aload_n 0, 1) := by decide +kernel
theorem dL_law_495 : decode cL_law 495 = .ok (.iload_n 3, 1) := by decide +kernel
theorem dL_law_496 : decode cL_law 496 = .ok (.iconst 1, 1) := by decide +kernel
theorem dL_law_497 : decode cL_law 497 = .ok (.iadd, 1) := by decide +kernel
theorem dL_law_498 : decode cL_law 498 = .ok (.iaload, 1) := by decide +kernel
theorem dL_law_499 : decode cL_law 499 = .ok (.aload_n 0, 1) := by decide +kernel
theorem dL_law_500 : decode cL_law 500 = .ok (.iload_n 3, 1) := by decide +kernel
theorem dL_law_501 : decode cL_law 501 = .ok (.iconst 2, 1) := by decide +kernel
theorem dL_law_502 : decode cL_law 502 = .ok (.iadd, 1) := by decide +kernel
theorem dL_law_503 : decode cL_law 503 = .ok (.iaload, 1) := by decide +kernel
theorem dL_law_504 : decode cL_law 504 = .ok (.aload_n 0, 1) := by decide +kernel
theorem dL_law_505 : decode cL_law 505 = .ok (.iload_n 3, 1) := by decide +kernel
theorem dL_law_506 : decode cL_law 506 = .ok (.iconst 3, 1) := by decide +kernel
theorem dL_law_507 : decode cL_law 507 = .ok (.iadd, 1) := by decide +kernel
theorem dL_law_508 : decode cL_law 508 = .ok (.iaload, 1) := by decide +kernel
theorem dL_law_509 : decode cL_law 509 = .ok (.invokevirtual 61, 3) := by decide +kernel
theorem dL_law_512 : decode cL_law 512 = .ok (.aload_n 2, 1) := by decide +kernel
theorem dL_law_513 : decode cL_law 513 = .ok (.aload_n 0, 1) := by decide +kernel
theorem dL_law_514 : decode cL_law 514 = .ok (.iload_n 3, 1) := by decide +kernel
theorem dL_law_515 : decode cL_law 515 = .ok (.iconst 1, 1) := by decide +kernel
theorem dL_law_516 : decode cL_law 516 = .ok (.iadd, 1) := by decide +kernel
theorem dL_law_517 : decode cL_law 517 = .ok (.iaload, 1) := by decide +kernel
theorem dL_law_518 : decode cL_law 518 = .ok (.aload_n 0, 1) := by decide +kernel
theorem dL_law_519 : decode cL_law 519 = .ok (.iload_n 3, 1) := by decide +kernel
theorem dL_law_520 : decode cL_law 520 = .ok (.iconst 2, 1) := by decide +kernel
theorem dL_law_521 : decode cL_law 521 = .ok (.iadd, 1) := by decide +kernel
theorem dL_law_522 : decode cL_law 522 = .ok (.iaload, 1) := by decide +kernel
theorem dL_law_523 : decode cL_law 523 = .ok (.aload_n 0, 1) := by decide +kernel
theorem dL_law_524 : decode cL_law 524 = .ok (.iload_n 3, 1) := by decide +kernel
theorem dL_law_525 : decode cL_law 525 = .ok (.iconst 3, 1) := by decide +kernel
theorem dL_law_526 : decode cL_law 526 = .ok (.iadd, 1) := by decide +kernel
theorem dL_law_527 : decode cL_law 527 = .ok (.iaload, 1) := by decide +kernel
theorem dL_law_528 : decode cL_law 528 = .ok (.invokevirtual 65, 3) := by decide +kernel
theorem dL_law_531 : decode cL_law 531 = .ok (.lcmp, 1) := by decide +kernel
theorem dL_law_532 : decode cL_law 532 = .ok (.ifCond .eq 250, 3) := by decide +kernel
theorem dL_law_535 : decode cL_law 535 = .ok (.iconst 0, 1) := by decide +kernel
theorem dL_law_536 : decode cL_law 536 = .ok (.ireturn, 1) := by decide +kernel
theorem dL_law_537 : decode cL_law 537 = .ok (.aload_n 1, 1) := by decide +kernel
theorem dL_law_538 : decode cL_law 538 = .ok (.aload_n 0, 1) := by decide +kernel
theorem dL_law_539 : decode cL_law 539 = .ok (.iload_n 3, 1) := by decide +kernel
theorem dL_law_540 : decode cL_law 540 = .ok (.iconst 1, 1) := by decide +kernel
theorem dL_law_541 : decode cL_law 541 = .ok (.iadd, 1) := by decide +kernel
theorem dL_law_542 : decode cL_law 542 = .ok (.iaload, 1) := by decide +kernel
theorem dL_law_543 : decode cL_law 543 = .ok (.aload_n 0, 1) := by decide +kernel
theorem dL_law_544 : decode cL_law 544 = .ok (.iload_n 3, 1) := by decide +kernel
theorem dL_law_545 : decode cL_law 545 = .ok (.iconst 2, 1) := by decide +kernel
theorem dL_law_546 : decode cL_law 546 = .ok (.iadd, 1) := by decide +kernel
theorem dL_law_547 : decode cL_law 547 = .ok (.iaload, 1) := by decide +kernel
theorem dL_law_548 : decode cL_law 548 = .ok (.invokevirtual 66, 3) := by decide +kernel
theorem dL_law_551 : decode cL_law 551 = .ok (.aload_n 2, 1) := by decide +kernel
theorem dL_law_552 : decode cL_law 552 = .ok (.aload_n 0, 1) := by decide +kernel
theorem dL_law_553 : decode cL_law 553 = .ok (.iload_n 3, 1) := by decide +kernel
theorem dL_law_554 : decode cL_law 554 = .ok (.iconst 1, 1) := by decide +kernel
theorem dL_law_555 : decode cL_law 555 = .ok (.iadd, 1) := by decide +kernel
theorem dL_law_556 : decode cL_law 556 = .ok (.iaload, 1) := by decide +kernel
theorem dL_law_557 : decode cL_law 557 = .ok (.aload_n 0, 1) := by decide +kernel
theorem dL_law_558 : decode cL_law 558 = .ok (.iload_n 3, 1) := by decide +kernel
theorem dL_law_559 : decode cL_law 559 = .ok (.iconst 2, 1) := by decide +kernel
theorem dL_law_560 : decode cL_law 560 = .ok (.iadd, 1) := by decide +kernel
theorem dL_law_561 : decode cL_law 561 = .ok (.iaload, 1) := by decide +kernel
theorem dL_law_562 : decode cL_law 562 = .ok (.invokevirtual 70, 3) := by decide +kernel
theorem dL_law_565 : decode cL_law 565 = .ok (.lcmp, 1) := by decide +kernel
theorem dL_law_566 : decode cL_law 566 = .ok (.ifCond .eq 216, 3) := by decide +kernel
theorem dL_law_569 : decode cL_law 569 = .ok (.iconst 0, 1) := by decide +kernel
theorem dL_law_570 : decode cL_law 570 = .ok (.ireturn, 1) := by decide +kernel
theorem dL_law_571 : decode cL_law 571 = .ok (.aload_n 1, 1) := by decide +kernel
theorem dL_law_572 : decode cL_law 572 = .ok (.aload_n 0, 1) := by decide +kernel
theorem dL_law_573 : decode cL_law 573 = .ok (.iload_n 3, 1) := by decide +kernel
theorem dL_law_574 : decode cL_law 574 = .ok (.iconst 1, 1) := by decide +kernel
theorem dL_law_575 : decode cL_law 575 = .ok (.iadd, 1) := by decide +kernel
theorem dL_law_576 : decode cL_law 576 = .ok (.iaload, 1) := by decide +kernel
theorem dL_law_577 : decode cL_law 577 = .ok (.aload_n 0, 1) := by decide +kernel
theorem dL_law_578 : decode cL_law 578 = .ok (.iload_n 3, 1) := by decide +kernel
theorem dL_law_579 : decode cL_law 579 = .ok (.iconst 2, 1) := by decide +kernel
theorem dL_law_580 : decode cL_law 580 = .ok (.iadd, 1) := by decide +kernel
theorem dL_law_581 : decode cL_law 581 = .ok (.iaload, 1) := by decide +kernel
theorem dL_law_582 : decode cL_law 582 = .ok (.aload_n 0, 1) := by decide +kernel
theorem dL_law_583 : decode cL_law 583 = .ok (.iload_n 3, 1) := by decide +kernel
theorem dL_law_584 : decode cL_law 584 = .ok (.iconst 3, 1) := by decide +kernel
theorem dL_law_585 : decode cL_law 585 = .ok (.iadd, 1) := by decide +kernel
theorem dL_law_586 : decode cL_law 586 = .ok (.iaload, 1) := by decide +kernel
theorem dL_law_587 : decode cL_law 587 = .ok (.invokevirtual 71, 3) := by decide +kernel
theorem dL_law_590 : decode cL_law 590 = .ok (.aload_n 2, 1) := by decide +kernel
theorem dL_law_591 : decode cL_law 591 = .ok (.aload_n 0, 1) := by decide +kernel
theorem dL_law_592 : decode cL_law 592 = .ok (.iload_n 3, 1) := by decide +kernel
theorem dL_law_593 : decode cL_law 593 = .ok (.iconst 1, 1) := by decide +kernel
theorem dL_law_594 : decode cL_law 594 = .ok (.iadd, 1) := by decide +kernel
theorem dL_law_595 : decode cL_law 595 = .ok (.iaload, 1) := by decide +kernel
theorem dL_law_596 : decode cL_law 596 = .ok (.aload_n 0, 1) := by decide +kernel
theorem dL_law_597 : decode cL_law 597 = .ok (.iload_n 3, 1) := by decide +kernel
theorem dL_law_598 : decode cL_law 598 = .ok (.iconst 2, 1) := by decide +kernel
theorem dL_law_599 : decode cL_law 599 = .ok (.iadd, 1) := by decide +kernel
theorem dL_law_600 : decode cL_law 600 = .ok (.iaload, 1) := by decide +kernel
theorem dL_law_601 : decode cL_law 601 = .ok (.aload_n 0, 1) := by decide +kernel
theorem dL_law_602 : decode cL_law 602 = .ok (.iload_n 3, 1) := by decide +kernel
theorem dL_law_603 : decode cL_law 603 = .ok (.iconst 3, 1) := by decide +kernel
theorem dL_law_604 : decode cL_law 604 = .ok (.iadd, 1) := by decide +kernel
theorem dL_law_605 : decode cL_law 605 = .ok (.iaload, 1) := by decide +kernel
theorem dL_law_606 : decode cL_law 606 = .ok (.invokevirtual 74, 3) := by decide +kernel
theorem dL_law_609 : decode cL_law 609 = .ok (.if_icmp .eq 173, 3) := by decide +kernel
theorem dL_law_612 : decode cL_law 612 = .ok (.iconst 0, 1) := by decide +kernel
theorem dL_law_613 : decode cL_law 613 = .ok (.ireturn, 1) := by decide +kernel
theorem dL_law_614 : decode cL_law 614 = .ok (.aload_n 1, 1) := by decide +kernel
theorem dL_law_615 : decode cL_law 615 = .ok (.aload_n 0, 1) := by decide +kernel
theorem dL_law_616 : decode cL_law 616 = .ok (.iload_n 3, 1) := by decide +kernel
theorem dL_law_617 : decode cL_law 617 = .ok (.iconst 1, 1) := by decide +kernel
theorem dL_law_618 : decode cL_law 618 = .ok (.iadd, 1) := by decide +kernel
theorem dL_law_619 : decode cL_law 619 = .ok (.iaload, 1) := by decide +kernel
theorem dL_law_620 : decode cL_law 620 = .ok (.aload_n 0, 1) := by decide +kernel
theorem dL_law_621 : decode cL_law 621 = .ok (.iload_n 3, 1) := by decide +kernel
theorem dL_law_622 : decode cL_law 622 = .ok (.iconst 2, 1) := by decide +kernel
theorem dL_law_623 : decode cL_law 623 = .ok (.iadd, 1) := by decide +kernel
theorem dL_law_624 : decode cL_law 624 = .ok (.iaload, 1) := by decide +kernel
theorem dL_law_625 : decode cL_law 625 = .ok (.aload_n 0, 1) := by decide +kernel
theorem dL_law_626 : decode cL_law 626 = .ok (.iload_n 3, 1) := by decide +kernel
theorem dL_law_627 : decode cL_law 627 = .ok (.iconst 3, 1) := by decide +kernel
theorem dL_law_628 : decode cL_law 628 = .ok (.iadd, 1) := by decide +kernel
theorem dL_law_629 : decode cL_law 629 = .ok (.iaload, 1) := by decide +kernel
theorem dL_law_630 : decode cL_law 630 = .ok (.invokevirtual 75, 3) := by decide +kernel
theorem dL_law_633 : decode cL_law 633 = .ok (.aload_n 2, 1) := by decide +kernel
theorem dL_law_634 : decode cL_law 634 = .ok (.aload_n 0, 1) := by decide +kernel
theorem dL_law_635 : decode cL_law 635 = .ok (.iload_n 3, 1) := by decide +kernel
theorem dL_law_636 : decode cL_law 636 = .ok (.iconst 1, 1) := by decide +kernel
theorem dL_law_637 : decode cL_law 637 = .ok (.iadd, 1) := by decide +kernel
theorem dL_law_638 : decode cL_law 638 = .ok (.iaload, 1) := by decide +kernel
theorem dL_law_639 : decode cL_law 639 = .ok (.aload_n 0, 1) := by decide +kernel
theorem dL_law_640 : decode cL_law 640 = .ok (.iload_n 3, 1) := by decide +kernel
theorem dL_law_641 : decode cL_law 641 = .ok (.iconst 2, 1) := by decide +kernel
theorem dL_law_642 : decode cL_law 642 = .ok (.iadd, 1) := by decide +kernel
theorem dL_law_643 : decode cL_law 643 = .ok (.iaload, 1) := by decide +kernel
theorem dL_law_644 : decode cL_law 644 = .ok (.aload_n 0, 1) := by decide +kernel
theorem dL_law_645 : decode cL_law 645 = .ok (.iload_n 3, 1) := by decide +kernel
theorem dL_law_646 : decode cL_law 646 = .ok (.iconst 3, 1) := by decide +kernel
theorem dL_law_647 : decode cL_law 647 = .ok (.iadd, 1) := by decide +kernel
theorem dL_law_648 : decode cL_law 648 = .ok (.iaload, 1) := by decide +kernel
theorem dL_law_649 : decode cL_law 649 = .ok (.invokevirtual 78, 3) := by decide +kernel
theorem dL_law_652 : decode cL_law 652 = .ok (.if_icmp .eq 130, 3) := by decide +kernel
theorem dL_law_655 : decode cL_law 655 = .ok (.iconst 0, 1) := by decide +kernel
theorem dL_law_656 : decode cL_law 656 = .ok (.ireturn, 1) := by decide +kernel
theorem dL_law_657 : decode cL_law 657 = .ok (.aload_n 1, 1) := by decide +kernel
theorem dL_law_658 : decode cL_law 658 = .ok (.aload_n 0, 1) := by decide +kernel
theorem dL_law_659 : decode cL_law 659 = .ok (.iload_n 3, 1) := by decide +kernel
theorem dL_law_660 : decode cL_law 660 = .ok (.iconst 1, 1) := by decide +kernel
theorem dL_law_661 : decode cL_law 661 = .ok (.iadd, 1) := by decide +kernel
theorem dL_law_662 : decode cL_law 662 = .ok (.iaload, 1) := by decide +kernel
theorem dL_law_663 : decode cL_law 663 = .ok (.aload_n 0, 1) := by decide +kernel
theorem dL_law_664 : decode cL_law 664 = .ok (.iload_n 3, 1) := by decide +kernel
theorem dL_law_665 : decode cL_law 665 = .ok (.iconst 2, 1) := by decide +kernel
theorem dL_law_666 : decode cL_law 666 = .ok (.iadd, 1) := by decide +kernel
theorem dL_law_667 : decode cL_law 667 = .ok (.iaload, 1) := by decide +kernel
theorem dL_law_668 : decode cL_law 668 = .ok (.aload_n 0, 1) := by decide +kernel
theorem dL_law_669 : decode cL_law 669 = .ok (.iload_n 3, 1) := by decide +kernel
theorem dL_law_670 : decode cL_law 670 = .ok (.iconst 3, 1) := by decide +kernel
theorem dL_law_671 : decode cL_law 671 = .ok (.iadd, 1) := by decide +kernel
theorem dL_law_672 : decode cL_law 672 = .ok (.iaload, 1) := by decide +kernel
theorem dL_law_673 : decode cL_law 673 = .ok (.invokevirtual 79, 3) := by decide +kernel
theorem dL_law_676 : decode cL_law 676 = .ok (.aload_n 2, 1) := by decide +kernel
theorem dL_law_677 : decode cL_law 677 = .ok (.aload_n 0, 1) := by decide +kernel
theorem dL_law_678 : decode cL_law 678 = .ok (.iload_n 3, 1) := by decide +kernel
theorem dL_law_679 : decode cL_law 679 = .ok (.iconst 1, 1) := by decide +kernel
theorem dL_law_680 : decode cL_law 680 = .ok (.iadd, 1) := by decide +kernel
theorem dL_law_681 : decode cL_law 681 = .ok (.iaload, 1) := by decide +kernel
theorem dL_law_682 : decode cL_law 682 = .ok (.aload_n 0, 1) := by decide +kernel
theorem dL_law_683 : decode cL_law 683 = .ok (.iload_n 3, 1) := by decide +kernel
theorem dL_law_684 : decode cL_law 684 = .ok (.iconst 2, 1) := by decide +kernel
theorem dL_law_685 : decode cL_law 685 = .ok (.iadd, 1) := by decide +kernel
theorem dL_law_686 : decode cL_law 686 = .ok (.iaload, 1) := by decide +kernel
theorem dL_law_687 : decode cL_law 687 = .ok (.aload_n 0, 1) := by decide +kernel
theorem dL_law_688 : decode cL_law 688 = .ok (.iload_n 3, 1) := by decide +kernel
theorem dL_law_689 : decode cL_law 689 = .ok (.iconst 3, 1) := by decide +kernel
theorem dL_law_690 : decode cL_law 690 = .ok (.iadd, 1) := by decide +kernel
theorem dL_law_691 : decode cL_law 691 = .ok (.iaload, 1) := by decide +kernel
theorem dL_law_692 : decode cL_law 692 = .ok (.invokevirtual 82, 3) := by decide +kernel
theorem dL_law_695 : decode cL_law 695 = .ok (.if_icmp .eq 87, 3) := by decide +kernel
theorem dL_law_698 : decode cL_law 698 = .ok (.iconst 0, 1) := by decide +kernel
theorem dL_law_699 : decode cL_law 699 = .ok (.ireturn, 1) := by decide +kernel
theorem dL_law_700 : decode cL_law 700 = .ok (.aload_n 1, 1) := by decide +kernel
theorem dL_law_701 : decode cL_law 701 = .ok (.invokevirtual 83, 3) := by decide +kernel
theorem dL_law_704 : decode cL_law 704 = .ok (.aload_n 2, 1) := by decide +kernel
theorem dL_law_705 : decode cL_law 705 = .ok (.invokevirtual 87, 3) := by decide +kernel
theorem dL_law_708 : decode cL_law 708 = .ok (.if_icmp .eq 74, 3) := by decide +kernel
theorem dL_law_711 : decode cL_law 711 = .ok (.iconst 0, 1) := by decide +kernel
theorem dL_law_712 : decode cL_law 712 = .ok (.ireturn, 1) := by decide +kernel
theorem dL_law_713 : decode cL_law 713 = .ok (.aload_n 1, 1) := by decide +kernel
theorem dL_law_714 : decode cL_law 714 = .ok (.aload_n 0, 1) := by decide +kernel
theorem dL_law_715 : decode cL_law 715 = .ok (.iload_n 3, 1) := by decide +kernel
theorem dL_law_716 : decode cL_law 716 = .ok (.iconst 1, 1) := by decide +kernel
theorem dL_law_717 : decode cL_law 717 = .ok (.iadd, 1) := by decide +kernel
theorem dL_law_718 : decode cL_law 718 = .ok (.iaload, 1) := by decide +kernel
theorem dL_law_719 : decode cL_law 719 = .ok (.invokevirtual 88, 3) := by decide +kernel
theorem dL_law_722 : decode cL_law 722 = .ok (.aload_n 2, 1) := by decide +kernel
theorem dL_law_723 : decode cL_law 723 = .ok (.aload_n 0, 1) := by decide +kernel
theorem dL_law_724 : decode cL_law 724 = .ok (.iload_n 3, 1) := by decide +kernel
theorem dL_law_725 : decode cL_law 725 = .ok (.iconst 1, 1) := by decide +kernel
theorem dL_law_726 : decode cL_law 726 = .ok (.iadd, 1) := by decide +kernel
theorem dL_law_727 : decode cL_law 727 = .ok (.iaload, 1) := by decide +kernel
theorem dL_law_728 : decode cL_law 728 = .ok (.invokevirtual 91, 3) := by decide +kernel
theorem dL_law_731 : decode cL_law 731 = .ok (.if_icmp .eq 51, 3) := by decide +kernel
theorem dL_law_734 : decode cL_law 734 = .ok (.iconst 0, 1) := by decide +kernel
theorem dL_law_735 : decode cL_law 735 = .ok (.ireturn, 1) := by decide +kernel
theorem dL_law_736 : decode cL_law 736 = .ok (.aload_n 1, 1) := by decide +kernel
theorem dL_law_737 : decode cL_law 737 = .ok (.aload_n 0, 1) := by decide +kernel
theorem dL_law_738 : decode cL_law 738 = .ok (.iload_n 3, 1) := by decide +kernel
theorem dL_law_739 : decode cL_law 739 = .ok (.iconst 1, 1) := by decide +kernel
theorem dL_law_740 : decode cL_law 740 = .ok (.iadd, 1) := by decide +kernel
theorem dL_law_741 : decode cL_law 741 = .ok (.iaload, 1) := by decide +kernel
theorem dL_law_742 : decode cL_law 742 = .ok (.invokevirtual 92, 3) := by decide +kernel
theorem dL_law_745 : decode cL_law 745 = .ok (.aload_n 2, 1) := by decide +kernel
theorem dL_law_746 : decode cL_law 746 = .ok (.aload_n 0, 1) := by decide +kernel
theorem dL_law_747 : decode cL_law 747 = .ok (.iload_n 3, 1) := by decide +kernel
theorem dL_law_748 : decode cL_law 748 = .ok (.iconst 1, 1) := by decide +kernel
theorem dL_law_749 : decode cL_law 749 = .ok (.iadd, 1) := by decide +kernel
theorem dL_law_750 : decode cL_law 750 = .ok (.iaload, 1) := by decide +kernel
theorem dL_law_751 : decode cL_law 751 = .ok (.invokevirtual 95, 3) := by decide +kernel
theorem dL_law_754 : decode cL_law 754 = .ok (.if_icmp .eq 28, 3) := by decide +kernel
theorem dL_law_757 : decode cL_law 757 = .ok (.iconst 0, 1) := by decide +kernel
theorem dL_law_758 : decode cL_law 758 = .ok (.ireturn, 1) := by decide +kernel
theorem dL_law_759 : decode cL_law 759 = .ok (.aload_n 1, 1) := by decide +kernel
theorem dL_law_760 : decode cL_law 760 = .ok (.aload_n 0, 1) := by decide +kernel
theorem dL_law_761 : decode cL_law 761 = .ok (.iload_n 3, 1) := by decide +kernel
theorem dL_law_762 : decode cL_law 762 = .ok (.iconst 1, 1) := by decide +kernel
theorem dL_law_763 : decode cL_law 763 = .ok (.iadd, 1) := by decide +kernel
theorem dL_law_764 : decode cL_law 764 = .ok (.iaload, 1) := by decide +kernel
theorem dL_law_765 : decode cL_law 765 = .ok (.invokevirtual 96, 3) := by decide +kernel
theorem dL_law_768 : decode cL_law 768 = .ok (.aload_n 2, 1) := by decide +kernel
theorem dL_law_769 : decode cL_law 769 = .ok (.aload_n 0, 1) := by decide +kernel
theorem dL_law_770 : decode cL_law 770 = .ok (.iload_n 3, 1) := by decide +kernel
theorem dL_law_771 : decode cL_law 771 = .ok (.iconst 1, 1) := by decide +kernel
theorem dL_law_772 : decode cL_law 772 = .ok (.iadd, 1) := by decide +kernel
theorem dL_law_773 : decode cL_law 773 = .ok (.iaload, 1) := by decide +kernel
theorem dL_law_774 : decode cL_law 774 = .ok (.invokevirtual 99, 3) := by decide +kernel
theorem dL_law_777 : decode cL_law 777 = .ok (.if_icmp .eq 5, 3) := by decide +kernel
theorem dL_law_780 : decode cL_law 780 = .ok (.iconst 0, 1) := by decide +kernel
theorem dL_law_781 : decode cL_law 781 = .ok (.ireturn, 1) := by decide +kernel
theorem dL_law_782 : decode cL_law 782 = .ok (.iinc 3 7, 3) := by decide +kernel
theorem dL_law_785 : decode cL_law 785 = .ok (.goto (-767), 3) := by decide +kernel
theorem dL_law_788 : decode cL_law 788 = .ok (.iconst 1, 1) := by decide +kernel
theorem dL_law_789 : decode cL_law 789 = .ok (.ireturn, 1) := by decide +kernel
