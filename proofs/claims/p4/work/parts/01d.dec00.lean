theorem dX0_init_0 : decode cX0_init 0 = .ok (.aload_n 0, 1) := by decide +kernel
theorem dX0_init_1 : decode cX0_init 1 = .ok (.iconst 3, 1) := by decide +kernel
theorem dX0_init_2 : decode cX0_init 2 = .ok (.invokespecial 3, 3) := by decide +kernel
theorem dX0_init_5 : decode cX0_init 5 = .ok (.return_, 1) := by decide +kernel
theorem dX0_wins_0 : decode cX0_wins 0 = .ok (.aload_n 1, 1) := by decide +kernel
theorem dX0_wins_1 : decode cX0_wins 1 = .ok (.bipush 33, 2) := by decide +kernel
theorem dX0_wins_3 : decode cX0_wins 3 = .ok (.invokevirtual 9, 3) := by decide +kernel
theorem dX0_wins_6 : decode cX0_wins 6 = .ok (.aload_n 2, 1) := by decide +kernel
theorem dX0_wins_7 : decode cX0_wins 7 = .ok (.getfield 14, 3) := by decide +kernel
theorem dX0_wins_10 : decode cX0_wins 10 = .ok (.getfield 20, 3) := by decide +kernel
theorem dX0_wins_13 : decode cX0_wins 13 = .ok (.istore 4, 2) := by decide +kernel
theorem dX0_wins_15 : decode cX0_wins 15 = .ok (.iconst (-1), 1) := by decide +kernel
theorem dX0_wins_16 : decode cX0_wins 16 = .ok (.istore 5, 2) := by decide +kernel
theorem dX0_wins_18 : decode cX0_wins 18 = .ok (.iload 4, 2) := by decide +kernel
theorem dX0_wins_20 : decode cX0_wins 20 = .ok (.iconst (-1), 1) := by decide +kernel
theorem dX0_wins_21 : decode cX0_wins 21 = .ok (.if_icmp .eq 23, 3) := by decide +kernel
theorem dX0_wins_24 : decode cX0_wins 24 = .ok (.aload_n 2, 1) := by decide +kernel
theorem dX0_wins_25 : decode cX0_wins 25 = .ok (.aload_n 3, 1) := by decide +kernel
theorem dX0_wins_26 : decode cX0_wins 26 = .ok (.iconst 5, 1) := by decide +kernel
theorem dX0_wins_27 : decode cX0_wins 27 = .ok (.invokevirtual 26, 3) := by decide +kernel
theorem dX0_wins_30 : decode cX0_wins 30 = .ok (.iconst (-1), 1) := by decide +kernel
theorem dX0_wins_31 : decode cX0_wins 31 = .ok (.if_icmp .ne 13, 3) := by decide +kernel
theorem dX0_wins_34 : decode cX0_wins 34 = .ok (.aload_n 2, 1) := by decide +kernel
theorem dX0_wins_35 : decode cX0_wins 35 = .ok (.aload_n 3, 1) := by decide +kernel
theorem dX0_wins_36 : decode cX0_wins 36 = .ok (.iconst 4, 1) := by decide +kernel
theorem dX0_wins_37 : decode cX0_wins 37 = .ok (.iload 4, 2) := by decide +kernel
theorem dX0_wins_39 : decode cX0_wins 39 = .ok (.invokevirtual 30, 3) := by decide +kernel
theorem dX0_wins_42 : decode cX0_wins 42 = .ok (.istore 5, 2) := by decide +kernel
theorem dX0_wins_44 : decode cX0_wins 44 = .ok (.iload 5, 2) := by decide +kernel
theorem dX0_wins_46 : decode cX0_wins 46 = .ok (.iconst (-1), 1) := by decide +kernel
theorem dX0_wins_47 : decode cX0_wins 47 = .ok (.if_icmp .ne 13, 3) := by decide +kernel
theorem dX0_wins_50 : decode cX0_wins 50 = .ok (.aload_n 0, 1) := by decide +kernel
theorem dX0_wins_51 : decode cX0_wins 51 = .ok (.aload_n 1, 1) := by decide +kernel
theorem dX0_wins_52 : decode cX0_wins 52 = .ok (.aload_n 2, 1) := by decide +kernel
theorem dX0_wins_53 : decode cX0_wins 53 = .ok (.aload_n 3, 1) := by decide +kernel
theorem dX0_wins_54 : decode cX0_wins 54 = .ok (.invokespecial 34, 3) := by decide +kernel
theorem dX0_wins_57 : decode cX0_wins 57 = .ok (.goto 5, 3) := by decide +kernel
theorem dX0_wins_60 : decode cX0_wins 60 = .ok (.iload 5, 2) := by decide +kernel
theorem dX0_wins_62 : decode cX0_wins 62 = .ok (.ireturn, 1) := by decide +kernel
theorem dX0_score_0 : decode cX0_score 0 = .ok (.aload_n 1, 1) := by decide +kernel
theorem dX0_score_1 : decode cX0_score 1 = .ok (.bipush 44, 2) := by decide +kernel
theorem dX0_score_3 : decode cX0_score 3 = .ok (.invokevirtual 9, 3) := by decide +kernel
theorem dX0_score_6 : decode cX0_score 6 = .ok (.aload_n 0, 1) := by decide +kernel
theorem dX0_score_7 : decode cX0_score 7 = .ok (.aload_n 1, 1) := by decide +kernel
theorem dX0_score_8 : decode cX0_score 8 = .ok (.aload_n 2, 1) := by decide +kernel
theorem dX0_score_9 : decode cX0_score 9 = .ok (.aload_n 3, 1) := by decide +kernel
theorem dX0_score_10 : decode cX0_score 10 = .ok (.iload 4, 2) := by decide +kernel
theorem dX0_score_12 : decode cX0_score 12 = .ok (.invokespecial 38, 3) := by decide +kernel
theorem dX0_score_15 : decode cX0_score 15 = .ok (.istore 5, 2) := by decide +kernel
theorem dX0_score_17 : decode cX0_score 17 = .ok (.iload 4, 2) := by decide +kernel
theorem dX0_score_19 : decode cX0_score 19 = .ok (.iconst 3, 1) := by decide +kernel
theorem dX0_score_20 : decode cX0_score 20 = .ok (.iand, 1) := by decide +kernel
theorem dX0_score_21 : decode cX0_score 21 = .ok (.aload_n 2, 1) := by decide +kernel
theorem dX0_score_22 : decode cX0_score 22 = .ok (.getfield 14, 3) := by decide +kernel
theorem dX0_score_25 : decode cX0_score 25 = .ok (.getfield 20, 3) := by decide +kernel
theorem dX0_score_28 : decode cX0_score 28 = .ok (.if_icmp .ne 10, 3) := by decide +kernel
theorem dX0_score_31 : decode cX0_score 31 = .ok (.iconst 2, 1) := by decide +kernel
theorem dX0_score_32 : decode cX0_score 32 = .ok (.iload 5, 2) := by decide +kernel
theorem dX0_score_34 : decode cX0_score 34 = .ok (.imul, 1) := by decide +kernel
theorem dX0_score_35 : decode cX0_score 35 = .ok (.goto 5, 3) := by decide +kernel
theorem dX0_score_38 : decode cX0_score 38 = .ok (.iload 5, 2) := by decide +kernel
theorem dX0_score_40 : decode cX0_score 40 = .ok (.ireturn, 1) := by decide +kernel
theorem dX0_settle_0 : decode cX0_settle 0 = .ok (.aload_n 1, 1) := by decide +kernel
theorem dX0_settle_1 : decode cX0_settle 1 = .ok (.bipush 52, 2) := by decide +kernel
theorem dX0_settle_3 : decode cX0_settle 3 = .ok (.invokevirtual 9, 3) := by decide +kernel
theorem dX0_settle_6 : decode cX0_settle 6 = .ok (.iload 4, 2) := by decide +kernel
theorem dX0_settle_8 : decode cX0_settle 8 = .ok (.istore 5, 2) := by decide +kernel
theorem dX0_settle_10 : decode cX0_settle 10 = .ok (.aload_n 2, 1) := by decide +kernel
theorem dX0_settle_11 : decode cX0_settle 11 = .ok (.getfield 42, 3) := by decide +kernel
theorem dX0_settle_14 : decode cX0_settle 14 = .ok (.ifCond .le 56, 3) := by decide +kernel
theorem dX0_settle_17 : decode cX0_settle 17 = .ok (.iload_n 3, 1) := by decide +kernel
theorem dX0_settle_18 : decode cX0_settle 18 = .ok (.aload_n 2, 1) := by decide +kernel
theorem dX0_settle_19 : decode cX0_settle 19 = .ok (.getfield 45, 3) := by decide +kernel
theorem dX0_settle_22 : decode cX0_settle 22 = .ok (.iconst 1, 1) := by decide +kernel
theorem dX0_settle_23 : decode cX0_settle 23 = .ok (.iand, 1) := by decide +kernel
theorem dX0_settle_24 : decode cX0_settle 24 = .ok (.if_icmp .ne 46, 3) := by decide +kernel
theorem dX0_settle_27 : decode cX0_settle 27 = .ok (.aload_n 2, 1) := by decide +kernel
theorem dX0_settle_28 : decode cX0_settle 28 = .ok (.getfield 48, 3) := by decide +kernel
theorem dX0_settle_31 : decode cX0_settle 31 = .ok (.aload_n 2, 1) := by decide +kernel
theorem dX0_settle_32 : decode cX0_settle 32 = .ok (.getfield 45, 3) := by decide +kernel
theorem dX0_settle_35 : decode cX0_settle 35 = .ok (.iconst 1, 1) := by decide +kernel
theorem dX0_settle_36 : decode cX0_settle 36 = .ok (.iand, 1) := by decide +kernel
theorem dX0_settle_37 : decode cX0_settle 37 = .ok (.iaload, 1) := by decide +kernel
theorem dX0_settle_38 : decode cX0_settle 38 = .ok (.aload_n 2, 1) := by decide +kernel
theorem dX0_settle_39 : decode cX0_settle 39 = .ok (.getfield 42, 3) := by decide +kernel
theorem dX0_settle_42 : decode cX0_settle 42 = .ok (.isub, 1) := by decide +kernel
theorem dX0_settle_43 : decode cX0_settle 43 = .ok (.istore 6, 2) := by decide +kernel
theorem dX0_settle_45 : decode cX0_settle 45 = .ok (.iload 6, 2) := by decide +kernel
theorem dX0_settle_47 : decode cX0_settle 47 = .ok (.ifCond .lt 16, 3) := by decide +kernel
theorem dX0_settle_50 : decode cX0_settle 50 = .ok (.iload 4, 2) := by decide +kernel
theorem dX0_settle_52 : decode cX0_settle 52 = .ok (.bipush 10, 2) := by decide +kernel
theorem dX0_settle_54 : decode cX0_settle 54 = .ok (.aload_n 2, 1) := by decide +kernel
theorem dX0_settle_55 : decode cX0_settle 55 = .ok (.getfield 42, 3) := by decide +kernel
theorem dX0_settle_58 : decode cX0_settle 58 = .ok (.imul, 1) := by decide +kernel
theorem dX0_settle_59 : decode cX0_settle 59 = .ok (.iadd, 1) := by decide +kernel
theorem dX0_settle_60 : decode cX0_settle 60 = .ok (.goto 8, 3) := by decide +kernel
theorem dX0_settle_63 : decode cX0_settle 63 = .ok (.bipush 10, 2) := by decide +kernel
theorem dX0_settle_65 : decode cX0_settle 65 = .ok (.iload 6, 2) := by decide +kernel
theorem dX0_settle_67 : decode cX0_settle 67 = .ok (.imul, 1) := by decide +kernel
theorem dX0_settle_68 : decode cX0_settle 68 = .ok (.istore 5, 2) := by decide +kernel
theorem dX0_settle_70 : decode cX0_settle 70 = .ok (.aload_n 0, 1) := by decide +kernel
theorem dX0_settle_71 : decode cX0_settle 71 = .ok (.aload_n 1, 1) := by decide +kernel
theorem dX0_settle_72 : decode cX0_settle 72 = .ok (.aload_n 2, 1) := by decide +kernel
theorem dX0_settle_73 : decode cX0_settle 73 = .ok (.iload_n 3, 1) := by decide +kernel
theorem dX0_settle_74 : decode cX0_settle 74 = .ok (.iload 5, 2) := by decide +kernel
theorem dX0_settle_76 : decode cX0_settle 76 = .ok (.invokespecial 52, 3) := by decide +kernel
theorem dX0_settle_79 : decode cX0_settle 79 = .ok (.ireturn, 1) := by decide +kernel
theorem dX1_init_0 : decode cX1_init 0 = .ok (.aload_n 0, 1) := by decide +kernel
theorem dX1_init_1 : decode cX1_init 1 = .ok (.invokespecial 3, 3) := by decide +kernel
theorem dX1_init_4 : decode cX1_init 4 = .ok (.aload_n 0, 1) := by decide +kernel
theorem dX1_init_5 : decode cX1_init 5 = .ok (.iconst 2, 1) := by decide +kernel
theorem dX1_init_6 : decode cX1_init 6 = .ok (.newarray .int, 2) := by decide +kernel
theorem dX1_init_8 : decode cX1_init 8 = .ok (.putfield 9, 3) := by decide +kernel
theorem dX1_init_11 : decode cX1_init 11 = .ok (.aload_n 0, 1) := by decide +kernel
theorem dX1_init_12 : decode cX1_init 12 = .ok (.iconst 2, 1) := by decide +kernel
theorem dX1_init_13 : decode cX1_init 13 = .ok (.newarray .int, 2) := by decide +kernel
theorem dX1_init_15 : decode cX1_init 15 = .ok (.putfield 15, 3) := by decide +kernel
theorem dX1_init_18 : decode cX1_init 18 = .ok (.aload_n 0, 1) := by decide +kernel
theorem dX1_init_19 : decode cX1_init 19 = .ok (.bipush 15, 2) := by decide +kernel
theorem dX1_init_21 : decode cX1_init 21 = .ok (.newarray .int, 2) := by decide +kernel
theorem dX1_init_23 : decode cX1_init 23 = .ok (.putfield 18, 3) := by decide +kernel
theorem dX1_init_26 : decode cX1_init 26 = .ok (.aload_n 0, 1) := by decide +kernel
theorem dX1_init_27 : decode cX1_init 27 = .ok (.bipush 15, 2) := by decide +kernel
theorem dX1_init_29 : decode cX1_init 29 = .ok (.newarray .int, 2) := by decide +kernel
theorem dX1_init_31 : decode cX1_init 31 = .ok (.putfield 21, 3) := by decide +kernel
theorem dX1_init_34 : decode cX1_init 34 = .ok (.aload_n 0, 1) := by decide +kernel
theorem dX1_init_35 : decode cX1_init 35 = .ok (.bipush 60, 2) := by decide +kernel
theorem dX1_init_37 : decode cX1_init 37 = .ok (.newarray .int, 2) := by decide +kernel
theorem dX1_init_39 : decode cX1_init 39 = .ok (.putfield 24, 3) := by decide +kernel
theorem dX1_init_42 : decode cX1_init 42 = .ok (.aload_n 0, 1) := by decide +kernel
theorem dX1_init_43 : decode cX1_init 43 = .ok (.bipush 60, 2) := by decide +kernel
theorem dX1_init_45 : decode cX1_init 45 = .ok (.newarray .int, 2) := by decide +kernel
theorem dX1_init_47 : decode cX1_init 47 = .ok (.putfield 27, 3) := by decide +kernel
theorem dX1_init_50 : decode cX1_init 50 = .ok (.aload_n 0, 1) := by decide +kernel
theorem dX1_init_51 : decode cX1_init 51 = .ok (.new 30, 3) := by decide +kernel
theorem dX1_init_54 : decode cX1_init 54 = .ok (.dup, 1) := by decide +kernel
theorem dX1_init_55 : decode cX1_init 55 = .ok (.bipush 101, 2) := by decide +kernel
theorem dX1_init_57 : decode cX1_init 57 = .ok (.invokespecial 32, 3) := by decide +kernel
theorem dX1_init_60 : decode cX1_init 60 = .ok (.putfield 35, 3) := by decide +kernel
theorem dX1_init_63 : decode cX1_init 63 = .ok (.return_, 1) := by decide +kernel
theorem dX1_clear_0 : decode cX1_clear 0 = .ok (.aload_n 0, 1) := by decide +kernel
theorem dX1_clear_1 : decode cX1_clear 1 = .ok (.iconst 0, 1) := by decide +kernel
theorem dX1_clear_2 : decode cX1_clear 2 = .ok (.putfield 39, 3) := by decide +kernel
theorem dX1_clear_5 : decode cX1_clear 5 = .ok (.aload_n 0, 1) := by decide +kernel
theorem dX1_clear_6 : decode cX1_clear 6 = .ok (.iconst 0, 1) := by decide +kernel
theorem dX1_clear_7 : decode cX1_clear 7 = .ok (.putfield 43, 3) := by decide +kernel
theorem dX1_clear_10 : decode cX1_clear 10 = .ok (.aload_n 0, 1) := by decide +kernel
theorem dX1_clear_11 : decode cX1_clear 11 = .ok (.iconst (-1), 1) := by decide +kernel
theorem dX1_clear_12 : decode cX1_clear 12 = .ok (.putfield 46, 3) := by decide +kernel
theorem dX1_clear_15 : decode cX1_clear 15 = .ok (.aload_n 0, 1) := by decide +kernel
theorem dX1_clear_16 : decode cX1_clear 16 = .ok (.iconst (-1), 1) := by decide +kernel
theorem dX1_clear_17 : decode cX1_clear 17 = .ok (.putfield 49, 3) := by decide +kernel
theorem dX1_clear_20 : decode cX1_clear 20 = .ok (.aload_n 0, 1) := by decide +kernel
theorem dX1_clear_21 : decode cX1_clear 21 = .ok (.iconst 0, 1) := by decide +kernel
theorem dX1_clear_22 : decode cX1_clear 22 = .ok (.iconst (-1), 1) := by decide +kernel
theorem dX1_clear_23 : decode cX1_clear 23 = .ok (.iconst (-1), 1) := by decide +kernel
theorem dX1_clear_24 : decode cX1_clear 24 = .ok (.invokevirtual 52, 3) := by decide +kernel
theorem dX1_clear_27 : decode cX1_clear 27 = .ok (.aload_n 0, 1) := by decide +kernel
theorem dX1_clear_28 : decode cX1_clear 28 = .ok (.iconst 0, 1) := by decide +kernel
theorem dX1_clear_29 : decode cX1_clear 29 = .ok (.putfield 56, 3) := by decide +kernel
theorem dX1_clear_32 : decode cX1_clear 32 = .ok (.aload_n 0, 1) := by decide +kernel
theorem dX1_clear_33 : decode cX1_clear 33 = .ok (.getfield 9, 3) := by decide +kernel
theorem dX1_clear_36 : decode cX1_clear 36 = .ok (.iconst 0, 1) := by decide +kernel
theorem dX1_clear_37 : decode cX1_clear 37 = .ok (.invokestatic 59, 3) := by decide +kernel
theorem dX1_clear_40 : decode cX1_clear 40 = .ok (.aload_n 0, 1) := by decide +kernel
theorem dX1_clear_41 : decode cX1_clear 41 = .ok (.getfield 15, 3) := by decide +kernel
theorem dX1_clear_44 : decode cX1_clear 44 = .ok (.iconst 0, 1) := by decide +kernel
theorem dX1_clear_45 : decode cX1_clear 45 = .ok (.invokestatic 59, 3) := by decide +kernel
theorem dX1_clear_48 : decode cX1_clear 48 = .ok (.aload_n 0, 1) := by decide +kernel
theorem dX1_clear_49 : decode cX1_clear 49 = .ok (.getfield 24, 3) := by decide +kernel
theorem dX1_clear_52 : decode cX1_clear 52 = .ok (.iconst (-1), 1) := by decide +kernel
theorem dX1_clear_53 : decode cX1_clear 53 = .ok (.invokestatic 59, 3) := by decide +kernel
theorem dX1_clear_56 : decode cX1_clear 56 = .ok (.aload_n 0, 1) := by decide +kernel
theorem dX1_clear_57 : decode cX1_clear 57 = .ok (.getfield 27, 3) := by decide +kernel
theorem dX1_clear_60 : decode cX1_clear 60 = .ok (.iconst (-1), 1) := by decide +kernel
theorem dX1_clear_61 : decode cX1_clear 61 = .ok (.invokestatic 59, 3) := by decide +kernel
theorem dX1_clear_64 : decode cX1_clear 64 = .ok (.aload_n 0, 1) := by decide +kernel
theorem dX1_clear_65 : decode cX1_clear 65 = .ok (.getfield 35, 3) := by decide +kernel
theorem dX1_clear_68 : decode cX1_clear 68 = .ok (.iconst 0, 1) := by decide +kernel
theorem dX1_clear_69 : decode cX1_clear 69 = .ok (.putfield 65, 3) := by decide +kernel
theorem dX1_clear_72 : decode cX1_clear 72 = .ok (.return_, 1) := by decide +kernel
theorem dX1_setTo_0 : decode cX1_setTo 0 = .ok (.aload_n 0, 1) := by decide +kernel
theorem dX1_setTo_1 : decode cX1_setTo 1 = .ok (.aload_n 1, 1) := by decide +kernel
theorem dX1_setTo_2 : decode cX1_setTo 2 = .ok (.getfield 39, 3) := by decide +kernel
theorem dX1_setTo_5 : decode cX1_setTo 5 = .ok (.putfield 39, 3) := by decide +kernel
theorem dX1_setTo_8 : decode cX1_setTo 8 = .ok (.aload_n 0, 1) := by decide +kernel
theorem dX1_setTo_9 : decode cX1_setTo 9 = .ok (.aload_n 1, 1) := by decide +kernel
theorem dX1_setTo_10 : decode cX1_setTo 10 = .ok (.getfield 43, 3) := by decide +kernel
theorem dX1_setTo_13 : decode cX1_setTo 13 = .ok (.putfield 43, 3) := by decide +kernel
theorem dX1_setTo_16 : decode cX1_setTo 16 = .ok (.aload_n 0, 1) := by decide +kernel
theorem dX1_setTo_17 : decode cX1_setTo 17 = .ok (.aload_n 1, 1) := by decide +kernel
theorem dX1_setTo_18 : decode cX1_setTo 18 = .ok (.getfield 46, 3) := by decide +kernel
theorem dX1_setTo_21 : decode cX1_setTo 21 = .ok (.putfield 46, 3) := by decide +kernel
theorem dX1_setTo_24 : decode cX1_setTo 24 = .ok (.aload_n 0, 1) := by decide +kernel
theorem dX1_setTo_25 : decode cX1_setTo 25 = .ok (.aload_n 1, 1) := by decide +kernel
theorem dX1_setTo_26 : decode cX1_setTo 26 = .ok (.getfield 49, 3) := by decide +kernel
theorem dX1_setTo_29 : decode cX1_setTo 29 = .ok (.putfield 49, 3) := by decide +kernel
theorem dX1_setTo_32 : decode cX1_setTo 32 = .ok (.aload_n 0, 1) := by decide +kernel
theorem dX1_setTo_33 : decode cX1_setTo 33 = .ok (.aload_n 1, 1) := by decide +kernel
theorem dX1_setTo_34 : decode cX1_setTo 34 = .ok (.getfield 68, 3) := by decide +kernel
theorem dX1_setTo_37 : decode cX1_setTo 37 = .ok (.aload_n 1, 1) := by decide +kernel
theorem dX1_setTo_38 : decode cX1_setTo 38 = .ok (.getfield 71, 3) := by decide +kernel
theorem dX1_setTo_41 : decode cX1_setTo 41 = .ok (.aload_n 1, 1) := by decide +kernel
theorem dX1_setTo_42 : decode cX1_setTo 42 = .ok (.getfield 74, 3) := by decide +kernel
theorem dX1_setTo_45 : decode cX1_setTo 45 = .ok (.invokevirtual 52, 3) := by decide +kernel
theorem dX1_setTo_48 : decode cX1_setTo 48 = .ok (.aload_n 0, 1) := by decide +kernel
theorem dX1_setTo_49 : decode cX1_setTo 49 = .ok (.aload_n 1, 1) := by decide +kernel
theorem dX1_setTo_50 : decode cX1_setTo 50 = .ok (.getfield 77, 3) := by decide +kernel
theorem dX1_setTo_53 : decode cX1_setTo 53 = .ok (.putfield 77, 3) := by decide +kernel
theorem dX1_setTo_56 : decode cX1_setTo 56 = .ok (.aload_n 0, 1) := by decide +kernel
theorem dX1_setTo_57 : decode cX1_setTo 57 = .ok (.aload_n 1, 1) := by decide +kernel
theorem dX1_setTo_58 : decode cX1_setTo 58 = .ok (.getfield 56, 3) := by decide +kernel
theorem dX1_setTo_61 : decode cX1_setTo 61 = .ok (.putfield 56, 3) := by decide +kernel
theorem dX1_setTo_64 : decode cX1_setTo 64 = .ok (.aload_n 0, 1) := by decide +kernel
theorem dX1_setTo_65 : decode cX1_setTo 65 = .ok (.aload_n 1, 1) := by decide +kernel
theorem dX1_setTo_66 : decode cX1_setTo 66 = .ok (.getfield 80, 3) := by decide +kernel
theorem dX1_setTo_69 : decode cX1_setTo 69 = .ok (.putfield 80, 3) := by decide +kernel
theorem dX1_setTo_72 : decode cX1_setTo 72 = .ok (.aload_n 0, 1) := by decide +kernel
theorem dX1_setTo_73 : decode cX1_setTo 73 = .ok (.aload_n 1, 1) := by decide +kernel
theorem dX1_setTo_74 : decode cX1_setTo 74 = .ok (.getfield 83, 3) := by decide +kernel
theorem dX1_setTo_77 : decode cX1_setTo 77 = .ok (.putfield 83, 3) := by decide +kernel
theorem dX1_setTo_80 : decode cX1_setTo 80 = .ok (.aload_n 1, 1) := by decide +kernel
theorem dX1_setTo_81 : decode cX1_setTo 81 = .ok (.getfield 9, 3) := by decide +kernel
theorem dX1_setTo_84 : decode cX1_setTo 84 = .ok (.aload_n 0, 1) := by decide +kernel
theorem dX1_setTo_85 : decode cX1_setTo 85 = .ok (.getfield 9, 3) := by decide +kernel
theorem dX1_setTo_88 : decode cX1_setTo 88 = .ok (.invokestatic 86, 3) := by decide +kernel
theorem dX1_setTo_91 : decode cX1_setTo 91 = .ok (.aload_n 1, 1) := by decide +kernel
theorem dX1_setTo_92 : decode cX1_setTo 92 = .ok (.getfield 15, 3) := by decide +kernel
theorem dX1_setTo_95 : decode cX1_setTo 95 = .ok (.aload_n 0, 1) := by decide +kernel
theorem dX1_setTo_96 : decode cX1_setTo 96 = .ok (.getfield 15, 3) := by decide +kernel
theorem dX1_setTo_99 : decode cX1_setTo 99 = .ok (.invokestatic 86, 3) := by decide +kernel
theorem dX1_setTo_102 : decode cX1_setTo 102 = .ok (.aload_n 1, 1) := by decide +kernel
theorem dX1_setTo_103 : decode cX1_setTo 103 = .ok (.getfield 18, 3) := by decide +kernel
theorem dX1_setTo_106 : decode cX1_setTo 106 = .ok (.aload_n 0, 1) := by decide +kernel
theorem dX1_setTo_107 : decode cX1_setTo 107 = .ok (.getfield 18, 3) := by decide +kernel
theorem dX1_setTo_110 : decode cX1_setTo 110 = .ok (.invokestatic 86, 3) := by decide +kernel
theorem dX1_setTo_113 : decode cX1_setTo 113 = .ok (.aload_n 1, 1) := by decide +kernel
theorem dX1_setTo_114 : decode cX1_setTo 114 = .ok (.getfield 21, 3) := by decide +kernel
theorem dX1_setTo_117 : decode cX1_setTo 117 = .ok (.aload_n 0, 1) := by decide +kernel
theorem dX1_setTo_118 : decode cX1_setTo 118 = .ok (.getfield 21, 3) := by decide +kernel
theorem dX1_setTo_121 : decode cX1_setTo 121 = .ok (.invokestatic 86, 3) := by decide +kernel
theorem dX1_setTo_124 : decode cX1_setTo 124 = .ok (.aload_n 1, 1) := by decide +kernel
theorem dX1_setTo_125 : decode cX1_setTo 125 = .ok (.getfield 24, 3) := by decide +kernel
theorem dX1_setTo_128 : decode cX1_setTo 128 = .ok (.aload_n 0, 1) := by decide +kernel
theorem dX1_setTo_129 : decode cX1_setTo 129 = .ok (.getfield 24, 3) := by decide +kernel
theorem dX1_setTo_132 : decode cX1_setTo 132 = .ok (.invokestatic 86, 3) := by decide +kernel
theorem dX1_setTo_135 : decode cX1_setTo 135 = .ok (.aload_n 1, 1) := by decide +kernel
theorem dX1_setTo_136 : decode cX1_setTo 136 = .ok (.getfield 27, 3) := by decide +kernel
theorem dX1_setTo_139 : decode cX1_setTo 139 = .ok (.aload_n 0, 1) := by decide +kernel
theorem dX1_setTo_140 : decode cX1_setTo 140 = .ok (.getfield 27, 3) := by decide +kernel
theorem dX1_setTo_143 : decode cX1_setTo 143 = .ok (.invokestatic 86, 3) := by decide +kernel
theorem dX1_setTo_146 : decode cX1_setTo 146 = .ok (.aload_n 0, 1) := by decide +kernel
theorem dX1_setTo_147 : decode cX1_setTo 147 = .ok (.getfield 35, 3) := by decide +kernel
theorem dX1_setTo_150 : decode cX1_setTo 150 = .ok (.aload_n 1, 1) := by decide +kernel
theorem dX1_setTo_151 : decode cX1_setTo 151 = .ok (.getfield 35, 3) := by decide +kernel
theorem dX1_setTo_154 : decode cX1_setTo 154 = .ok (.invokevirtual 90, 3) := by decide +kernel
theorem dX1_setTo_157 : decode cX1_setTo 157 = .ok (.return_, 1) := by decide +kernel
theorem dX1_setBid_0 : decode cX1_setBid 0 = .ok (.aload_n 0, 1) := by decide +kernel
theorem dX1_setBid_1 : decode cX1_setBid 1 = .ok (.iload_n 1, 1) := by decide +kernel
theorem dX1_setBid_2 : decode cX1_setBid 2 = .ok (.putfield 68, 3) := by decide +kernel
theorem dX1_setBid_5 : decode cX1_setBid 5 = .ok (.aload_n 0, 1) := by decide +kernel
theorem dX1_setBid_6 : decode cX1_setBid 6 = .ok (.iload_n 2, 1) := by decide +kernel
theorem dX1_setBid_7 : decode cX1_setBid 7 = .ok (.putfield 71, 3) := by decide +kernel
theorem dX1_setBid_10 : decode cX1_setBid 10 = .ok (.aload_n 0, 1) := by decide +kernel
theorem dX1_setBid_11 : decode cX1_setBid 11 = .ok (.iload_n 3, 1) := by decide +kernel
theorem dX1_setBid_12 : decode cX1_setBid 12 = .ok (.putfield 74, 3) := by decide +kernel
theorem dX1_setBid_15 : decode cX1_setBid 15 = .ok (.aload_n 0, 1) := by decide +kernel
theorem dX1_setBid_16 : decode cX1_setBid 16 = .ok (.iconst 0, 1) := by decide +kernel
theorem dX1_setBid_17 : decode cX1_setBid 17 = .ok (.putfield 77, 3) := by decide +kernel
theorem dX1_setBid_20 : decode cX1_setBid 20 = .ok (.return_, 1) := by decide +kernel
theorem dX1_isAboveBid_0 : decode cX1_isAboveBid 0 = .ok (.iload_n 1, 1) := by decide +kernel
theorem dX1_isAboveBid_1 : decode cX1_isAboveBid 1 = .ok (.aload_n 0, 1) := by decide +kernel
theorem dX1_isAboveBid_2 : decode cX1_isAboveBid 2 = .ok (.getfield 68, 3) := by decide +kernel
theorem dX1_isAboveBid_5 : decode cX1_isAboveBid 5 = .ok (.if_icmp .gt 19, 3) := by decide +kernel
theorem dX1_isAboveBid_8 : decode cX1_isAboveBid 8 = .ok (.iload_n 1, 1) := by decide +kernel
theorem dX1_isAboveBid_9 : decode cX1_isAboveBid 9 = .ok (.aload_n 0, 1) := by decide +kernel
theorem dX1_isAboveBid_10 : decode cX1_isAboveBid 10 = .ok (.getfield 68, 3) := by decide +kernel
theorem dX1_isAboveBid_13 : decode cX1_isAboveBid 13 = .ok (.if_icmp .ne 15, 3) := by decide +kernel
theorem dX1_isAboveBid_16 : decode cX1_isAboveBid 16 = .ok (.iload_n 2, 1) := by decide +kernel
theorem dX1_isAboveBid_17 : decode cX1_isAboveBid 17 = .ok (.aload_n 0, 1) := by decide +kernel
theorem dX1_isAboveBid_18 : decode cX1_isAboveBid 18 = .ok (.getfield 71, 3) := by decide +kernel
theorem dX1_isAboveBid_21 : decode cX1_isAboveBid 21 = .ok (.if_icmp .le 7, 3) := by decide +kernel
theorem dX1_isAboveBid_24 : decode cX1_isAboveBid 24 = .ok (.iconst 1, 1) := by decide +kernel
theorem dX1_isAboveBid_25 : decode cX1_isAboveBid 25 = .ok (.goto 4, 3) := by decide +kernel
theorem dX1_isAboveBid_28 : decode cX1_isAboveBid 28 = .ok (.iconst 0, 1) := by decide +kernel
theorem dX1_isAboveBid_29 : decode cX1_isAboveBid 29 = .ok (.ireturn, 1) := by decide +kernel
theorem dX1_addTrick_0 : decode cX1_addTrick 0 = .ok (.aload_n 0, 1) := by decide +kernel
theorem dX1_addTrick_1 : decode cX1_addTrick 1 = .ok (.getfield 56, 3) := by decide +kernel
theorem dX1_addTrick_4 : decode cX1_addTrick 4 = .ok (.bipush 15, 2) := by decide +kernel
theorem dX1_addTrick_6 : decode cX1_addTrick 6 = .ok (.if_icmp .ge 60, 3) := by decide +kernel
theorem dX1_addTrick_9 : decode cX1_addTrick 9 = .ok (.iload_n 1, 1) := by decide +kernel
theorem dX1_addTrick_10 : decode cX1_addTrick 10 = .ok (.invokestatic 94, 3) := by decide +kernel
theorem dX1_addTrick_13 : decode cX1_addTrick 13 = .ok (.ifCond .eq 53, 3) := by decide +kernel
theorem dX1_addTrick_16 : decode cX1_addTrick 16 = .ok (.aload_n 0, 1) := by decide +kernel
theorem dX1_addTrick_17 : decode cX1_addTrick 17 = .ok (.getfield 18, 3) := by decide +kernel
theorem dX1_addTrick_20 : decode cX1_addTrick 20 = .ok (.aload_n 0, 1) := by decide +kernel
theorem dX1_addTrick_21 : decode cX1_addTrick 21 = .ok (.getfield 56, 3) := by decide +kernel
theorem dX1_addTrick_24 : decode cX1_addTrick 24 = .ok (.iload_n 1, 1) := by decide +kernel
theorem dX1_addTrick_25 : decode cX1_addTrick 25 = .ok (.iastore, 1) := by decide +kernel
theorem dX1_addTrick_26 : decode cX1_addTrick 26 = .ok (.aload_n 0, 1) := by decide +kernel
theorem dX1_addTrick_27 : decode cX1_addTrick 27 = .ok (.getfield 21, 3) := by decide +kernel
theorem dX1_addTrick_30 : decode cX1_addTrick 30 = .ok (.aload_n 0, 1) := by decide +kernel
theorem dX1_addTrick_31 : decode cX1_addTrick 31 = .ok (.getfield 56, 3) := by decide +kernel
theorem dX1_addTrick_34 : decode cX1_addTrick 34 = .ok (.iload_n 2, 1) := by decide +kernel
theorem dX1_addTrick_35 : decode cX1_addTrick 35 = .ok (.iastore, 1) := by decide +kernel
theorem dX1_addTrick_36 : decode cX1_addTrick 36 = .ok (.aload_n 0, 1) := by decide +kernel
theorem dX1_addTrick_37 : decode cX1_addTrick 37 = .ok (.dup, 1) := by decide +kernel
theorem dX1_addTrick_38 : decode cX1_addTrick 38 = .ok (.getfield 56, 3) := by decide +kernel
theorem dX1_addTrick_41 : decode cX1_addTrick 41 = .ok (.iconst 1, 1) := by decide +kernel
theorem dX1_addTrick_42 : decode cX1_addTrick 42 = .ok (.iadd, 1) := by decide +kernel
theorem dX1_addTrick_43 : decode cX1_addTrick 43 = .ok (.putfield 56, 3) := by decide +kernel
theorem dX1_addTrick_46 : decode cX1_addTrick 46 = .ok (.aload_n 0, 1) := by decide +kernel
theorem dX1_addTrick_47 : decode cX1_addTrick 47 = .ok (.getfield 9, 3) := by decide +kernel
theorem dX1_addTrick_50 : decode cX1_addTrick 50 = .ok (.iload_n 1, 1) := by decide +kernel
theorem dX1_addTrick_51 : decode cX1_addTrick 51 = .ok (.dup2, 1) := by decide +kernel
theorem dX1_addTrick_52 : decode cX1_addTrick 52 = .ok (.iaload, 1) := by decide +kernel
theorem dX1_addTrick_53 : decode cX1_addTrick 53 = .ok (.iconst 1, 1) := by decide +kernel
theorem dX1_addTrick_54 : decode cX1_addTrick 54 = .ok (.iadd, 1) := by decide +kernel
theorem dX1_addTrick_55 : decode cX1_addTrick 55 = .ok (.iastore, 1) := by decide +kernel
theorem dX1_addTrick_56 : decode cX1_addTrick 56 = .ok (.aload_n 0, 1) := by decide +kernel
theorem dX1_addTrick_57 : decode cX1_addTrick 57 = .ok (.getfield 15, 3) := by decide +kernel
theorem dX1_addTrick_60 : decode cX1_addTrick 60 = .ok (.iload_n 1, 1) := by decide +kernel
theorem dX1_addTrick_61 : decode cX1_addTrick 61 = .ok (.dup2, 1) := by decide +kernel
theorem dX1_addTrick_62 : decode cX1_addTrick 62 = .ok (.iaload, 1) := by decide +kernel
theorem dX1_addTrick_63 : decode cX1_addTrick 63 = .ok (.iload_n 2, 1) := by decide +kernel
theorem dX1_addTrick_64 : decode cX1_addTrick 64 = .ok (.iadd, 1) := by decide +kernel
theorem dX1_addTrick_65 : decode cX1_addTrick 65 = .ok (.iastore, 1) := by decide +kernel
theorem dX1_addTrick_66 : decode cX1_addTrick 66 = .ok (.return_, 1) := by decide +kernel
theorem dX1_moveTrick_0 : decode cX1_moveTrick 0 = .ok (.iload_n 1, 1) := by decide +kernel
theorem dX1_moveTrick_1 : decode cX1_moveTrick 1 = .ok (.ifCond .lt 77, 3) := by decide +kernel
theorem dX1_moveTrick_4 : decode cX1_moveTrick 4 = .ok (.iload_n 1, 1) := by decide +kernel
theorem dX1_moveTrick_5 : decode cX1_moveTrick 5 = .ok (.bipush 15, 2) := by decide +kernel
theorem dX1_moveTrick_7 : decode cX1_moveTrick 7 = .ok (.if_icmp .ge 71, 3) := by decide +kernel
theorem dX1_moveTrick_10 : decode cX1_moveTrick 10 = .ok (.iload_n 2, 1) := by decide +kernel
theorem dX1_moveTrick_11 : decode cX1_moveTrick 11 = .ok (.invokestatic 94, 3) := by decide +kernel
theorem dX1_moveTrick_14 : decode cX1_moveTrick 14 = .ok (.ifCond .eq 64, 3) := by decide +kernel
theorem dX1_moveTrick_17 : decode cX1_moveTrick 17 = .ok (.aload_n 0, 1) := by decide +kernel
theorem dX1_moveTrick_18 : decode cX1_moveTrick 18 = .ok (.getfield 18, 3) := by decide +kernel
theorem dX1_moveTrick_21 : decode cX1_moveTrick 21 = .ok (.iload_n 1, 1) := by decide +kernel
theorem dX1_moveTrick_22 : decode cX1_moveTrick 22 = .ok (.iload_n 2, 1) := by decide +kernel
theorem dX1_moveTrick_23 : decode cX1_moveTrick 23 = .ok (.iastore, 1) := by decide +kernel
theorem dX1_moveTrick_24 : decode cX1_moveTrick 24 = .ok (.aload_n 0, 1) := by decide +kernel
theorem dX1_moveTrick_25 : decode cX1_moveTrick 25 = .ok (.getfield 9, 3) := by decide +kernel
theorem dX1_moveTrick_28 : decode cX1_moveTrick 28 = .ok (.iload_n 2, 1) := by decide +kernel
theorem dX1_moveTrick_29 : decode cX1_moveTrick 29 = .ok (.dup2, 1) := by decide +kernel
theorem dX1_moveTrick_30 : decode cX1_moveTrick 30 = .ok (.iaload, 1) := by decide +kernel
theorem dX1_moveTrick_31 : decode cX1_moveTrick 31 = .ok (.iconst 1, 1) := by decide +kernel
theorem dX1_moveTrick_32 : decode cX1_moveTrick 32 = .ok (.iadd, 1) := by decide +kernel
theorem dX1_moveTrick_33 : decode cX1_moveTrick 33 = .ok (.iastore, 1) := by decide +kernel
theorem dX1_moveTrick_34 : decode cX1_moveTrick 34 = .ok (.aload_n 0, 1) := by decide +kernel
theorem dX1_moveTrick_35 : decode cX1_moveTrick 35 = .ok (.getfield 15, 3) := by decide +kernel
theorem dX1_moveTrick_38 : decode cX1_moveTrick 38 = .ok (.iload_n 2, 1) := by decide +kernel
theorem dX1_moveTrick_39 : decode cX1_moveTrick 39 = .ok (.dup2, 1) := by decide +kernel
theorem dX1_moveTrick_40 : decode cX1_moveTrick 40 = .ok (.iaload, 1) := by decide +kernel
theorem dX1_moveTrick_41 : decode cX1_moveTrick 41 = .ok (.aload_n 0, 1) := by decide +kernel
theorem dX1_moveTrick_42 : decode cX1_moveTrick 42 = .ok (.getfield 21, 3) := by decide +kernel
theorem dX1_moveTrick_45 : decode cX1_moveTrick 45 = .ok (.iload_n 1, 1) := by decide +kernel
theorem dX1_moveTrick_46 : decode cX1_moveTrick 46 = .ok (.iaload, 1) := by decide +kernel
theorem dX1_moveTrick_47 : decode cX1_moveTrick 47 = .ok (.iadd, 1) := by decide +kernel
theorem dX1_moveTrick_48 : decode cX1_moveTrick 48 = .ok (.iastore, 1) := by decide +kernel
theorem dX1_moveTrick_49 : decode cX1_moveTrick 49 = .ok (.aload_n 0, 1) := by decide +kernel
theorem dX1_moveTrick_50 : decode cX1_moveTrick 50 = .ok (.getfield 9, 3) := by decide +kernel
theorem dX1_moveTrick_53 : decode cX1_moveTrick 53 = .ok (.iconst 1, 1) := by decide +kernel
theorem dX1_moveTrick_54 : decode cX1_moveTrick 54 = .ok (.iload_n 2, 1) := by decide +kernel
theorem dX1_moveTrick_55 : decode cX1_moveTrick 55 = .ok (.isub, 1) := by decide +kernel
theorem dX1_moveTrick_56 : decode cX1_moveTrick 56 = .ok (.dup2, 1) := by decide +kernel
theorem dX1_moveTrick_57 : decode cX1_moveTrick 57 = .ok (.iaload, 1) := by decide +kernel
theorem dX1_moveTrick_58 : decode cX1_moveTrick 58 = .ok (.iconst 1, 1) := by decide +kernel
theorem dX1_moveTrick_59 : decode cX1_moveTrick 59 = .ok (.isub, 1) := by decide +kernel
theorem dX1_moveTrick_60 : decode cX1_moveTrick 60 = .ok (.iastore, 1) := by decide +kernel
theorem dX1_moveTrick_61 : decode cX1_moveTrick 61 = .ok (.aload_n 0, 1) := by decide +kernel
theorem dX1_moveTrick_62 : decode cX1_moveTrick 62 = .ok (.getfield 15, 3) := by decide +kernel
theorem dX1_moveTrick_65 : decode cX1_moveTrick 65 = .ok (.iconst 1, 1) := by decide +kernel
theorem dX1_moveTrick_66 : decode cX1_moveTrick 66 = .ok (.iload_n 2, 1) := by decide +kernel
theorem dX1_moveTrick_67 : decode cX1_moveTrick 67 = .ok (.isub, 1) := by decide +kernel
theorem dX1_moveTrick_68 : decode cX1_moveTrick 68 = .ok (.dup2, 1) := by decide +kernel
theorem dX1_moveTrick_69 : decode cX1_moveTrick 69 = .ok (.iaload, 1) := by decide +kernel
theorem dX1_moveTrick_70 : decode cX1_moveTrick 70 = .ok (.aload_n 0, 1) := by decide +kernel
theorem dX1_moveTrick_71 : decode cX1_moveTrick 71 = .ok (.getfield 21, 3) := by decide +kernel
theorem dX1_moveTrick_74 : decode cX1_moveTrick 74 = .ok (.iload_n 1, 1) := by decide +kernel
theorem dX1_moveTrick_75 : decode cX1_moveTrick 75 = .ok (.iaload, 1) := by decide +kernel
theorem dX1_moveTrick_76 : decode cX1_moveTrick 76 = .ok (.isub, 1) := by decide +kernel
theorem dX1_moveTrick_77 : decode cX1_moveTrick 77 = .ok (.iastore, 1) := by decide +kernel
theorem dX1_moveTrick_78 : decode cX1_moveTrick 78 = .ok (.return_, 1) := by decide +kernel
theorem dX1_deny_0 : decode cX1_deny 0 = .ok (.iload_n 1, 1) := by decide +kernel
theorem dX1_deny_1 : decode cX1_deny 1 = .ok (.invokestatic 98, 3) := by decide +kernel
theorem dX1_deny_4 : decode cX1_deny 4 = .ok (.ifCond .eq 27, 3) := by decide +kernel
theorem dX1_deny_7 : decode cX1_deny 7 = .ok (.aload_n 0, 1) := by decide +kernel
theorem dX1_deny_8 : decode cX1_deny 8 = .ok (.getfield 56, 3) := by decide +kernel
theorem dX1_deny_11 : decode cX1_deny 11 = .ok (.bipush 15, 2) := by decide +kernel
theorem dX1_deny_13 : decode cX1_deny 13 = .ok (.if_icmp .ge 18, 3) := by decide +kernel
theorem dX1_deny_16 : decode cX1_deny 16 = .ok (.aload_n 0, 1) := by decide +kernel
theorem dX1_deny_17 : decode cX1_deny 17 = .ok (.getfield 27, 3) := by decide +kernel
theorem dX1_deny_20 : decode cX1_deny 20 = .ok (.iload_n 1, 1) := by decide +kernel
theorem dX1_deny_21 : decode cX1_deny 21 = .ok (.bipush 15, 2) := by decide +kernel
theorem dX1_deny_23 : decode cX1_deny 23 = .ok (.imul, 1) := by decide +kernel
theorem dX1_deny_24 : decode cX1_deny 24 = .ok (.aload_n 0, 1) := by decide +kernel
theorem dX1_deny_25 : decode cX1_deny 25 = .ok (.getfield 56, 3) := by decide +kernel
theorem dX1_deny_28 : decode cX1_deny 28 = .ok (.iadd, 1) := by decide +kernel
theorem dX1_deny_29 : decode cX1_deny 29 = .ok (.iload_n 2, 1) := by decide +kernel
theorem dX1_deny_30 : decode cX1_deny 30 = .ok (.iastore, 1) := by decide +kernel
theorem dX1_deny_31 : decode cX1_deny 31 = .ok (.return_, 1) := by decide +kernel
theorem dX1_findRevoke_0 : decode cX1_findRevoke 0 = .ok (.iconst 0, 1) := by decide +kernel
theorem dX1_findRevoke_1 : decode cX1_findRevoke 1 = .ok (.istore_n 3, 1) := by decide +kernel
theorem dX1_findRevoke_2 : decode cX1_findRevoke 2 = .ok (.iload_n 3, 1) := by decide +kernel
theorem dX1_findRevoke_3 : decode cX1_findRevoke 3 = .ok (.aload_n 0, 1) := by decide +kernel
theorem dX1_findRevoke_4 : decode cX1_findRevoke 4 = .ok (.getfield 56, 3) := by decide +kernel
theorem dX1_findRevoke_7 : decode cX1_findRevoke 7 = .ok (.if_icmp .ge 52, 3) := by decide +kernel
theorem dX1_findRevoke_10 : decode cX1_findRevoke 10 = .ok (.iload_n 3, 1) := by decide +kernel
theorem dX1_findRevoke_11 : decode cX1_findRevoke 11 = .ok (.bipush 15, 2) := by decide +kernel
theorem dX1_findRevoke_13 : decode cX1_findRevoke 13 = .ok (.if_icmp .ge 46, 3) := by decide +kernel
theorem dX1_findRevoke_16 : decode cX1_findRevoke 16 = .ok (.iload_n 1, 1) := by decide +kernel
theorem dX1_findRevoke_17 : decode cX1_findRevoke 17 = .ok (.invokestatic 98, 3) := by decide +kernel
theorem dX1_findRevoke_20 : decode cX1_findRevoke 20 = .ok (.ifCond .eq 39, 3) := by decide +kernel
theorem dX1_findRevoke_23 : decode cX1_findRevoke 23 = .ok (.aload_n 0, 1) := by decide +kernel
theorem dX1_findRevoke_24 : decode cX1_findRevoke 24 = .ok (.getfield 27, 3) := by decide +kernel
theorem dX1_findRevoke_27 : decode cX1_findRevoke 27 = .ok (.iload_n 1, 1) := by decide +kernel
theorem dX1_findRevoke_28 : decode cX1_findRevoke 28 = .ok (.bipush 15, 2) := by decide +kernel
theorem dX1_findRevoke_30 : decode cX1_findRevoke 30 = .ok (.imul, 1) := by decide +kernel
theorem dX1_findRevoke_31 : decode cX1_findRevoke 31 = .ok (.iload_n 3, 1) := by decide +kernel
theorem dX1_findRevoke_32 : decode cX1_findRevoke 32 = .ok (.iadd, 1) := by decide +kernel
theorem dX1_findRevoke_33 : decode cX1_findRevoke 33 = .ok (.iaload, 1) := by decide +kernel
theorem dX1_findRevoke_34 : decode cX1_findRevoke 34 = .ok (.iload_n 2, 1) := by decide +kernel
theorem dX1_findRevoke_35 : decode cX1_findRevoke 35 = .ok (.if_icmp .ne 18, 3) := by decide +kernel
theorem dX1_findRevoke_38 : decode cX1_findRevoke 38 = .ok (.aload_n 0, 1) := by decide +kernel
theorem dX1_findRevoke_39 : decode cX1_findRevoke 39 = .ok (.getfield 27, 3) := by decide +kernel
theorem dX1_findRevoke_42 : decode cX1_findRevoke 42 = .ok (.iload_n 1, 1) := by decide +kernel
theorem dX1_findRevoke_43 : decode cX1_findRevoke 43 = .ok (.bipush 15, 2) := by decide +kernel
theorem dX1_findRevoke_45 : decode cX1_findRevoke 45 = .ok (.imul, 1) := by decide +kernel
theorem dX1_findRevoke_46 : decode cX1_findRevoke 46 = .ok (.iload_n 3, 1) := by decide +kernel
theorem dX1_findRevoke_47 : decode cX1_findRevoke 47 = .ok (.iadd, 1) := by decide +kernel
theorem dX1_findRevoke_48 : decode cX1_findRevoke 48 = .ok (.bipush 9, 2) := by decide +kernel
theorem dX1_findRevoke_50 : decode cX1_findRevoke 50 = .ok (.iastore, 1) := by decide +kernel
theorem dX1_findRevoke_51 : decode cX1_findRevoke 51 = .ok (.iload_n 3, 1) := by decide +kernel
theorem dX1_findRevoke_52 : decode cX1_findRevoke 52 = .ok (.ireturn, 1) := by decide +kernel
theorem dX1_findRevoke_53 : decode cX1_findRevoke 53 = .ok (.iinc 3 1, 3) := by decide +kernel
theorem dX1_findRevoke_56 : decode cX1_findRevoke 56 = .ok (.goto (-54), 3) := by decide +kernel
theorem dX1_findRevoke_59 : decode cX1_findRevoke 59 = .ok (.iconst (-1), 1) := by decide +kernel
theorem dX1_findRevoke_60 : decode cX1_findRevoke 60 = .ok (.ireturn, 1) := by decide +kernel
theorem dX1_revokesOf_0 : decode cX1_revokesOf 0 = .ok (.iconst 0, 1) := by decide +kernel
theorem dX1_revokesOf_1 : decode cX1_revokesOf 1 = .ok (.istore_n 3, 1) := by decide +kernel
theorem dX1_revokesOf_2 : decode cX1_revokesOf 2 = .ok (.iconst 0, 1) := by decide +kernel
theorem dX1_revokesOf_3 : decode cX1_revokesOf 3 = .ok (.istore 4, 2) := by decide +kernel
theorem dX1_revokesOf_5 : decode cX1_revokesOf 5 = .ok (.iload 4, 2) := by decide +kernel
theorem dX1_revokesOf_7 : decode cX1_revokesOf 7 = .ok (.bipush 15, 2) := by decide +kernel
theorem dX1_revokesOf_9 : decode cX1_revokesOf 9 = .ok (.if_icmp .ge 55, 3) := by decide +kernel
theorem dX1_revokesOf_12 : decode cX1_revokesOf 12 = .ok (.iload_n 1, 1) := by decide +kernel
theorem dX1_revokesOf_13 : decode cX1_revokesOf 13 = .ok (.invokestatic 98, 3) := by decide +kernel
theorem dX1_revokesOf_16 : decode cX1_revokesOf 16 = .ok (.ifCond .eq 48, 3) := by decide +kernel
theorem dX1_revokesOf_19 : decode cX1_revokesOf 19 = .ok (.aload_n 0, 1) := by decide +kernel
theorem dX1_revokesOf_20 : decode cX1_revokesOf 20 = .ok (.getfield 27, 3) := by decide +kernel
theorem dX1_revokesOf_23 : decode cX1_revokesOf 23 = .ok (.iload_n 1, 1) := by decide +kernel
theorem dX1_revokesOf_24 : decode cX1_revokesOf 24 = .ok (.bipush 15, 2) := by decide +kernel
theorem dX1_revokesOf_26 : decode cX1_revokesOf 26 = .ok (.imul, 1) := by decide +kernel
theorem dX1_revokesOf_27 : decode cX1_revokesOf 27 = .ok (.iload 4, 2) := by decide +kernel
theorem dX1_revokesOf_29 : decode cX1_revokesOf 29 = .ok (.iadd, 1) := by decide +kernel
theorem dX1_revokesOf_30 : decode cX1_revokesOf 30 = .ok (.iaload, 1) := by decide +kernel
theorem dX1_revokesOf_31 : decode cX1_revokesOf 31 = .ok (.istore 5, 2) := by decide +kernel
theorem dX1_revokesOf_33 : decode cX1_revokesOf 33 = .ok (.iload_n 3, 1) := by decide +kernel
theorem dX1_revokesOf_34 : decode cX1_revokesOf 34 = .ok (.iload 5, 2) := by decide +kernel
theorem dX1_revokesOf_36 : decode cX1_revokesOf 36 = .ok (.bipush 9, 2) := by decide +kernel
theorem dX1_revokesOf_38 : decode cX1_revokesOf 38 = .ok (.if_icmp .eq 13, 3) := by decide +kernel
theorem dX1_revokesOf_41 : decode cX1_revokesOf 41 = .ok (.iload 5, 2) := by decide +kernel
theorem dX1_revokesOf_43 : decode cX1_revokesOf 43 = .ok (.iconst (-1), 1) := by decide +kernel
theorem dX1_revokesOf_44 : decode cX1_revokesOf 44 = .ok (.if_icmp .eq 11, 3) := by decide +kernel
theorem dX1_revokesOf_47 : decode cX1_revokesOf 47 = .ok (.iload_n 2, 1) := by decide +kernel
theorem dX1_revokesOf_48 : decode cX1_revokesOf 48 = .ok (.ifCond .ne 7, 3) := by decide +kernel
theorem dX1_revokesOf_51 : decode cX1_revokesOf 51 = .ok (.iconst 1, 1) := by decide +kernel
theorem dX1_revokesOf_52 : decode cX1_revokesOf 52 = .ok (.goto 4, 3) := by decide +kernel
theorem dX1_revokesOf_55 : decode cX1_revokesOf 55 = .ok (.iconst 0, 1) := by decide +kernel
theorem dX1_revokesOf_56 : decode cX1_revokesOf 56 = .ok (.iadd, 1) := by decide +kernel
theorem dX1_revokesOf_57 : decode cX1_revokesOf 57 = .ok (.istore_n 3, 1) := by decide +kernel
theorem dX1_revokesOf_58 : decode cX1_revokesOf 58 = .ok (.iinc 4 1, 3) := by decide +kernel
theorem dX1_revokesOf_61 : decode cX1_revokesOf 61 = .ok (.goto (-56), 3) := by decide +kernel
theorem dX1_revokesOf_64 : decode cX1_revokesOf 64 = .ok (.iload_n 3, 1) := by decide +kernel
theorem dX1_revokesOf_65 : decode cX1_revokesOf 65 = .ok (.ireturn, 1) := by decide +kernel
theorem dX2_init_0 : decode cX2_init 0 = .ok (.aload_n 0, 1) := by decide +kernel
theorem dX2_init_1 : decode cX2_init 1 = .ok (.invokespecial 3, 3) := by decide +kernel
theorem dX2_init_4 : decode cX2_init 4 = .ok (.aload_n 0, 1) := by decide +kernel
theorem dX2_init_5 : decode cX2_init 5 = .ok (.new 9, 3) := by decide +kernel
theorem dX2_init_8 : decode cX2_init 8 = .ok (.dup, 1) := by decide +kernel
theorem dX2_init_9 : decode cX2_init 9 = .ok (.iconst 1, 1) := by decide +kernel
theorem dX2_init_10 : decode cX2_init 10 = .ok (.invokespecial 11, 3) := by decide +kernel
theorem dX2_init_13 : decode cX2_init 13 = .ok (.putfield 14, 3) := by decide +kernel
theorem dX2_init_16 : decode cX2_init 16 = .ok (.aload_n 0, 1) := by decide +kernel
theorem dX2_init_17 : decode cX2_init 17 = .ok (.sipush 20736, 3) := by decide +kernel
theorem dX2_init_20 : decode cX2_init 20 = .ok (.newarray .int, 2) := by decide +kernel
theorem dX2_init_22 : decode cX2_init 22 = .ok (.putfield 20, 3) := by decide +kernel
theorem dX2_init_25 : decode cX2_init 25 = .ok (.aload_n 0, 1) := by decide +kernel
theorem dX2_init_26 : decode cX2_init 26 = .ok (.sipush 20736, 3) := by decide +kernel
theorem dX2_init_29 : decode cX2_init 29 = .ok (.newarray .int, 2) := by decide +kernel
theorem dX2_init_31 : decode cX2_init 31 = .ok (.putfield 24, 3) := by decide +kernel
theorem dX2_init_34 : decode cX2_init 34 = .ok (.aload_n 0, 1) := by decide +kernel
theorem dX2_init_35 : decode cX2_init 35 = .ok (.bipush 60, 2) := by decide +kernel
theorem dX2_init_37 : decode cX2_init 37 = .ok (.newarray .int, 2) := by decide +kernel
theorem dX2_init_39 : decode cX2_init 39 = .ok (.putfield 27, 3) := by decide +kernel
theorem dX2_init_42 : decode cX2_init 42 = .ok (.aload_n 0, 1) := by decide +kernel
theorem dX2_init_43 : decode cX2_init 43 = .ok (.iconst 4, 1) := by decide +kernel
theorem dX2_init_44 : decode cX2_init 44 = .ok (.anewarray 30, 3) := by decide +kernel
theorem dX2_init_47 : decode cX2_init 47 = .ok (.putfield 32, 3) := by decide +kernel
theorem dX2_init_50 : decode cX2_init 50 = .ok (.aload_n 0, 1) := by decide +kernel
theorem dX2_init_51 : decode cX2_init 51 = .ok (.iconst 5, 1) := by decide +kernel
theorem dX2_init_52 : decode cX2_init 52 = .ok (.anewarray 30, 3) := by decide +kernel
theorem dX2_init_55 : decode cX2_init 55 = .ok (.putfield 36, 3) := by decide +kernel
theorem dX2_init_58 : decode cX2_init 58 = .ok (.aload_n 0, 1) := by decide +kernel
theorem dX2_init_59 : decode cX2_init 59 = .ok (.iconst 5, 1) := by decide +kernel
theorem dX2_init_60 : decode cX2_init 60 = .ok (.anewarray 30, 3) := by decide +kernel
theorem dX2_init_63 : decode cX2_init 63 = .ok (.putfield 39, 3) := by decide +kernel
theorem dX2_init_66 : decode cX2_init 66 = .ok (.iconst 0, 1) := by decide +kernel
theorem dX2_init_67 : decode cX2_init 67 = .ok (.istore_n 1, 1) := by decide +kernel
theorem dX2_init_68 : decode cX2_init 68 = .ok (.iload_n 1, 1) := by decide +kernel
theorem dX2_init_69 : decode cX2_init 69 = .ok (.iconst 4, 1) := by decide +kernel
theorem dX2_init_70 : decode cX2_init 70 = .ok (.if_icmp .ge 23, 3) := by decide +kernel
theorem dX2_init_73 : decode cX2_init 73 = .ok (.aload_n 0, 1) := by decide +kernel
theorem dX2_init_74 : decode cX2_init 74 = .ok (.getfield 32, 3) := by decide +kernel
theorem dX2_init_77 : decode cX2_init 77 = .ok (.iload_n 1, 1) := by decide +kernel
theorem dX2_init_78 : decode cX2_init 78 = .ok (.new 30, 3) := by decide +kernel
theorem dX2_init_81 : decode cX2_init 81 = .ok (.dup, 1) := by decide +kernel
theorem dX2_init_82 : decode cX2_init 82 = .ok (.iconst 4, 1) := by decide +kernel
theorem dX2_init_83 : decode cX2_init 83 = .ok (.invokespecial 42, 3) := by decide +kernel
theorem dX2_init_86 : decode cX2_init 86 = .ok (.aastore, 1) := by decide +kernel
theorem dX2_init_87 : decode cX2_init 87 = .ok (.iinc 1 1, 3) := by decide +kernel
theorem dX2_init_90 : decode cX2_init 90 = .ok (.goto (-22), 3) := by decide +kernel
theorem dX2_init_93 : decode cX2_init 93 = .ok (.iconst 0, 1) := by decide +kernel
theorem dX2_init_94 : decode cX2_init 94 = .ok (.istore_n 1, 1) := by decide +kernel
theorem dX2_init_95 : decode cX2_init 95 = .ok (.iload_n 1, 1) := by decide +kernel
theorem dX2_init_96 : decode cX2_init 96 = .ok (.iconst 4, 1) := by decide +kernel
theorem dX2_init_97 : decode cX2_init 97 = .ok (.if_icmp .gt 37, 3) := by decide +kernel
theorem dX2_init_100 : decode cX2_init 100 = .ok (.aload_n 0, 1) := by decide +kernel
theorem dX2_init_101 : decode cX2_init 101 = .ok (.getfield 36, 3) := by decide +kernel
theorem dX2_init_104 : decode cX2_init 104 = .ok (.iload_n 1, 1) := by decide +kernel
theorem dX2_init_105 : decode cX2_init 105 = .ok (.new 30, 3) := by decide +kernel
theorem dX2_init_108 : decode cX2_init 108 = .ok (.dup, 1) := by decide +kernel
theorem dX2_init_109 : decode cX2_init 109 = .ok (.iconst 4, 1) := by decide +kernel
theorem dX2_init_110 : decode cX2_init 110 = .ok (.invokespecial 42, 3) := by decide +kernel
theorem dX2_init_113 : decode cX2_init 113 = .ok (.aastore, 1) := by decide +kernel
theorem dX2_init_114 : decode cX2_init 114 = .ok (.aload_n 0, 1) := by decide +kernel
theorem dX2_init_115 : decode cX2_init 115 = .ok (.getfield 39, 3) := by decide +kernel
theorem dX2_init_118 : decode cX2_init 118 = .ok (.iload_n 1, 1) := by decide +kernel
theorem dX2_init_119 : decode cX2_init 119 = .ok (.new 30, 3) := by decide +kernel
theorem dX2_init_122 : decode cX2_init 122 = .ok (.dup, 1) := by decide +kernel
theorem dX2_init_123 : decode cX2_init 123 = .ok (.iconst 4, 1) := by decide +kernel
theorem dX2_init_124 : decode cX2_init 124 = .ok (.invokespecial 42, 3) := by decide +kernel
theorem dX2_init_127 : decode cX2_init 127 = .ok (.aastore, 1) := by decide +kernel
theorem dX2_init_128 : decode cX2_init 128 = .ok (.iinc 1 1, 3) := by decide +kernel
theorem dX2_init_131 : decode cX2_init 131 = .ok (.goto (-36), 3) := by decide +kernel
theorem dX2_init_134 : decode cX2_init 134 = .ok (.return_, 1) := by decide +kernel
theorem dX2_begin_0 : decode cX2_begin 0 = .ok (.aload_n 0, 1) := by decide +kernel
theorem dX2_begin_1 : decode cX2_begin 1 = .ok (.aload_n 1, 1) := by decide +kernel
theorem dX2_begin_2 : decode cX2_begin 2 = .ok (.putfield 45, 3) := by decide +kernel
theorem dX2_begin_5 : decode cX2_begin 5 = .ok (.aload_n 0, 1) := by decide +kernel
theorem dX2_begin_6 : decode cX2_begin 6 = .ok (.iload_n 2, 1) := by decide +kernel
theorem dX2_begin_7 : decode cX2_begin 7 = .ok (.putfield 49, 3) := by decide +kernel
theorem dX2_begin_10 : decode cX2_begin 10 = .ok (.aload_n 0, 1) := by decide +kernel
theorem dX2_begin_11 : decode cX2_begin 11 = .ok (.aload_n 1, 1) := by decide +kernel
theorem dX2_begin_12 : decode cX2_begin 12 = .ok (.getfield 53, 3) := by decide +kernel
theorem dX2_begin_15 : decode cX2_begin 15 = .ok (.ifnonnull 7, 3) := by decide +kernel
theorem dX2_begin_18 : decode cX2_begin 18 = .ok (.aconst_null, 1) := by decide +kernel
theorem dX2_begin_19 : decode cX2_begin 19 = .ok (.goto 10, 3) := by decide +kernel
theorem dX2_begin_22 : decode cX2_begin 22 = .ok (.aload_n 1, 1) := by decide +kernel
theorem dX2_begin_23 : decode cX2_begin 23 = .ok (.getfield 53, 3) := by decide +kernel
theorem dX2_begin_26 : decode cX2_begin 26 = .ok (.invokevirtual 59, 3) := by decide +kernel
theorem dX2_begin_29 : decode cX2_begin 29 = .ok (.putfield 65, 3) := by decide +kernel
theorem dX2_begin_32 : decode cX2_begin 32 = .ok (.aload_n 0, 1) := by decide +kernel
theorem dX2_begin_33 : decode cX2_begin 33 = .ok (.dup, 1) := by decide +kernel
theorem dX2_begin_34 : decode cX2_begin 34 = .ok (.getfield 68, 3) := by decide +kernel
theorem dX2_begin_37 : decode cX2_begin 37 = .ok (.iconst 1, 1) := by decide +kernel
theorem dX2_begin_38 : decode cX2_begin 38 = .ok (.iadd, 1) := by decide +kernel
theorem dX2_begin_39 : decode cX2_begin 39 = .ok (.putfield 68, 3) := by decide +kernel
theorem dX2_begin_42 : decode cX2_begin 42 = .ok (.aload_n 0, 1) := by decide +kernel
theorem dX2_begin_43 : decode cX2_begin 43 = .ok (.iconst 0, 1) := by decide +kernel
theorem dX2_begin_44 : decode cX2_begin 44 = .ok (.putfield 71, 3) := by decide +kernel
theorem dX2_begin_47 : decode cX2_begin 47 = .ok (.aload_n 0, 1) := by decide +kernel
theorem dX2_begin_48 : decode cX2_begin 48 = .ok (.iconst 0, 1) := by decide +kernel
theorem dX2_begin_49 : decode cX2_begin 49 = .ok (.putfield 74, 3) := by decide +kernel
theorem dX2_begin_52 : decode cX2_begin 52 = .ok (.aload_n 0, 1) := by decide +kernel
theorem dX2_begin_53 : decode cX2_begin 53 = .ok (.iconst 0, 1) := by decide +kernel
theorem dX2_begin_54 : decode cX2_begin 54 = .ok (.putfield 77, 3) := by decide +kernel
theorem dX2_begin_57 : decode cX2_begin 57 = .ok (.iconst 0, 1) := by decide +kernel
theorem dX2_begin_58 : decode cX2_begin 58 = .ok (.istore_n 3, 1) := by decide +kernel
theorem dX2_begin_59 : decode cX2_begin 59 = .ok (.iload_n 3, 1) := by decide +kernel
theorem dX2_begin_60 : decode cX2_begin 60 = .ok (.iconst 4, 1) := by decide +kernel
theorem dX2_begin_61 : decode cX2_begin 61 = .ok (.if_icmp .ge 85, 3) := by decide +kernel
theorem dX2_begin_64 : decode cX2_begin 64 = .ok (.aload_n 0, 1) := by decide +kernel
theorem dX2_begin_65 : decode cX2_begin 65 = .ok (.getfield 32, 3) := by decide +kernel
theorem dX2_begin_68 : decode cX2_begin 68 = .ok (.iload_n 3, 1) := by decide +kernel
theorem dX2_begin_69 : decode cX2_begin 69 = .ok (.aaload, 1) := by decide +kernel
theorem dX2_begin_70 : decode cX2_begin 70 = .ok (.aload_n 1, 1) := by decide +kernel
theorem dX2_begin_71 : decode cX2_begin 71 = .ok (.iload_n 3, 1) := by decide +kernel
theorem dX2_begin_72 : decode cX2_begin 72 = .ok (.invokevirtual 80, 3) := by decide +kernel
theorem dX2_begin_75 : decode cX2_begin 75 = .ok (.invokevirtual 84, 3) := by decide +kernel
theorem dX2_begin_78 : decode cX2_begin 78 = .ok (.aload_n 0, 1) := by decide +kernel
theorem dX2_begin_79 : decode cX2_begin 79 = .ok (.aload_n 0, 1) := by decide +kernel
theorem dX2_begin_80 : decode cX2_begin 80 = .ok (.getfield 77, 3) := by decide +kernel
theorem dX2_begin_83 : decode cX2_begin 83 = .ok (.aload_n 0, 1) := by decide +kernel
theorem dX2_begin_84 : decode cX2_begin 84 = .ok (.getfield 32, 3) := by decide +kernel
theorem dX2_begin_87 : decode cX2_begin 87 = .ok (.iload_n 3, 1) := by decide +kernel
theorem dX2_begin_88 : decode cX2_begin 88 = .ok (.aaload, 1) := by decide +kernel
theorem dX2_begin_89 : decode cX2_begin 89 = .ok (.getfield 88, 3) := by decide +kernel
theorem dX2_begin_92 : decode cX2_begin 92 = .ok (.invokestatic 91, 3) := by decide +kernel
theorem dX2_begin_95 : decode cX2_begin 95 = .ok (.putfield 77, 3) := by decide +kernel
theorem dX2_begin_98 : decode cX2_begin 98 = .ok (.iconst 0, 1) := by decide +kernel
theorem dX2_begin_99 : decode cX2_begin 99 = .ok (.istore 4, 2) := by decide +kernel
theorem dX2_begin_101 : decode cX2_begin 101 = .ok (.iload 4, 2) := by decide +kernel
theorem dX2_begin_103 : decode cX2_begin 103 = .ok (.aload_n 0, 1) := by decide +kernel
theorem dX2_begin_104 : decode cX2_begin 104 = .ok (.getfield 32, 3) := by decide +kernel
theorem dX2_begin_107 : decode cX2_begin 107 = .ok (.iload_n 3, 1) := by decide +kernel
theorem dX2_begin_108 : decode cX2_begin 108 = .ok (.aaload, 1) := by decide +kernel
theorem dX2_begin_109 : decode cX2_begin 109 = .ok (.getfield 88, 3) := by decide +kernel
theorem dX2_begin_112 : decode cX2_begin 112 = .ok (.if_icmp .ge 28, 3) := by decide +kernel
theorem dX2_begin_115 : decode cX2_begin 115 = .ok (.aload_n 0, 1) := by decide +kernel
theorem dX2_begin_116 : decode cX2_begin 116 = .ok (.aload_n 0, 1) := by decide +kernel
theorem dX2_begin_117 : decode cX2_begin 117 = .ok (.getfield 32, 3) := by decide +kernel
theorem dX2_begin_120 : decode cX2_begin 120 = .ok (.iload_n 3, 1) := by decide +kernel
theorem dX2_begin_121 : decode cX2_begin 121 = .ok (.aaload, 1) := by decide +kernel
theorem dX2_begin_122 : decode cX2_begin 122 = .ok (.iload 4, 2) := by decide +kernel
theorem dX2_begin_124 : decode cX2_begin 124 = .ok (.invokevirtual 97, 3) := by decide +kernel
theorem dX2_begin_127 : decode cX2_begin 127 = .ok (.iconst 1, 1) := by decide +kernel
theorem dX2_begin_128 : decode cX2_begin 128 = .ok (.iload 4, 2) := by decide +kernel
theorem dX2_begin_130 : decode cX2_begin 130 = .ok (.ishl, 1) := by decide +kernel
theorem dX2_begin_131 : decode cX2_begin 131 = .ok (.invokevirtual 100, 3) := by decide +kernel
theorem dX2_begin_134 : decode cX2_begin 134 = .ok (.iinc 4 1, 3) := by decide +kernel
theorem dX2_begin_137 : decode cX2_begin 137 = .ok (.goto (-36), 3) := by decide +kernel
theorem dX2_begin_140 : decode cX2_begin 140 = .ok (.iinc 3 1, 3) := by decide +kernel
theorem dX2_begin_143 : decode cX2_begin 143 = .ok (.goto (-84), 3) := by decide +kernel
theorem dX2_begin_146 : decode cX2_begin 146 = .ok (.iconst 0, 1) := by decide +kernel
theorem dX2_begin_147 : decode cX2_begin 147 = .ok (.istore_n 3, 1) := by decide +kernel
theorem dX2_begin_148 : decode cX2_begin 148 = .ok (.iload_n 3, 1) := by decide +kernel
theorem dX2_begin_149 : decode cX2_begin 149 = .ok (.iconst 4, 1) := by decide +kernel
theorem dX2_begin_150 : decode cX2_begin 150 = .ok (.if_icmp .gt 29, 3) := by decide +kernel
theorem dX2_begin_153 : decode cX2_begin 153 = .ok (.aload_n 0, 1) := by decide +kernel
theorem dX2_begin_154 : decode cX2_begin 154 = .ok (.getfield 36, 3) := by decide +kernel
theorem dX2_begin_157 : decode cX2_begin 157 = .ok (.iload_n 3, 1) := by decide +kernel
theorem dX2_begin_158 : decode cX2_begin 158 = .ok (.aaload, 1) := by decide +kernel
theorem dX2_begin_159 : decode cX2_begin 159 = .ok (.iconst 0, 1) := by decide +kernel
theorem dX2_begin_160 : decode cX2_begin 160 = .ok (.putfield 88, 3) := by decide +kernel
theorem dX2_begin_163 : decode cX2_begin 163 = .ok (.aload_n 0, 1) := by decide +kernel
theorem dX2_begin_164 : decode cX2_begin 164 = .ok (.getfield 39, 3) := by decide +kernel
theorem dX2_begin_167 : decode cX2_begin 167 = .ok (.iload_n 3, 1) := by decide +kernel
theorem dX2_begin_168 : decode cX2_begin 168 = .ok (.aaload, 1) := by decide +kernel
theorem dX2_begin_169 : decode cX2_begin 169 = .ok (.iconst 0, 1) := by decide +kernel
theorem dX2_begin_170 : decode cX2_begin 170 = .ok (.putfield 88, 3) := by decide +kernel
theorem dX2_begin_173 : decode cX2_begin 173 = .ok (.iinc 3 1, 3) := by decide +kernel
theorem dX2_begin_176 : decode cX2_begin 176 = .ok (.goto (-28), 3) := by decide +kernel
theorem dX2_begin_179 : decode cX2_begin 179 = .ok (.return_, 1) := by decide +kernel
theorem dX2_setBit_0 : decode cX2_setBit 0 = .ok (.iload_n 1, 1) := by decide +kernel
theorem dX2_setBit_1 : decode cX2_setBit 1 = .ok (.ifCond .lt 16, 3) := by decide +kernel
theorem dX2_setBit_4 : decode cX2_setBit 4 = .ok (.iload_n 1, 1) := by decide +kernel
theorem dX2_setBit_5 : decode cX2_setBit 5 = .ok (.bipush 60, 2) := by decide +kernel
theorem dX2_setBit_7 : decode cX2_setBit 7 = .ok (.if_icmp .ge 10, 3) := by decide +kernel
theorem dX2_setBit_10 : decode cX2_setBit 10 = .ok (.aload_n 0, 1) := by decide +kernel
theorem dX2_setBit_11 : decode cX2_setBit 11 = .ok (.getfield 27, 3) := by decide +kernel
theorem dX2_setBit_14 : decode cX2_setBit 14 = .ok (.iload_n 1, 1) := by decide +kernel
theorem dX2_setBit_15 : decode cX2_setBit 15 = .ok (.iload_n 2, 1) := by decide +kernel
theorem dX2_setBit_16 : decode cX2_setBit 16 = .ok (.iastore, 1) := by decide +kernel
theorem dX2_setBit_17 : decode cX2_setBit 17 = .ok (.return_, 1) := by decide +kernel
theorem dX2_bestOf_0 : decode cX2_bestOf 0 = .ok (.aload_n 0, 1) := by decide +kernel
theorem dX2_bestOf_1 : decode cX2_bestOf 1 = .ok (.aload_n 1, 1) := by decide +kernel
theorem dX2_bestOf_2 : decode cX2_bestOf 2 = .ok (.iload_n 2, 1) := by decide +kernel
theorem dX2_bestOf_3 : decode cX2_bestOf 3 = .ok (.invokevirtual 104, 3) := by decide +kernel
theorem dX2_bestOf_6 : decode cX2_bestOf 6 = .ok (.aload_n 0, 1) := by decide +kernel
theorem dX2_bestOf_7 : decode cX2_bestOf 7 = .ok (.aload_n 1, 1) := by decide +kernel
theorem dX2_bestOf_8 : decode cX2_bestOf 8 = .ok (.getfield 108, 3) := by decide +kernel
theorem dX2_bestOf_11 : decode cX2_bestOf 11 = .ok (.getfield 112, 3) := by decide +kernel
theorem dX2_bestOf_14 : decode cX2_bestOf 14 = .ok (.iconst 0, 1) := by decide +kernel
theorem dX2_bestOf_15 : decode cX2_bestOf 15 = .ok (.invokevirtual 117, 3) := by decide +kernel
theorem dX2_bestOf_18 : decode cX2_bestOf 18 = .ok (.ireturn, 1) := by decide +kernel
theorem dX2_lineCard_0 : decode cX2_lineCard 0 = .ok (.aload_n 0, 1) := by decide +kernel
theorem dX2_lineCard_1 : decode cX2_lineCard 1 = .ok (.aload_n 1, 1) := by decide +kernel
theorem dX2_lineCard_2 : decode cX2_lineCard 2 = .ok (.iload_n 2, 1) := by decide +kernel
theorem dX2_lineCard_3 : decode cX2_lineCard 3 = .ok (.invokevirtual 104, 3) := by decide +kernel
theorem dX2_lineCard_6 : decode cX2_lineCard 6 = .ok (.aload_n 1, 1) := by decide +kernel
theorem dX2_lineCard_7 : decode cX2_lineCard 7 = .ok (.getfield 108, 3) := by decide +kernel
theorem dX2_lineCard_10 : decode cX2_lineCard 10 = .ok (.getfield 112, 3) := by decide +kernel
theorem dX2_lineCard_13 : decode cX2_lineCard 13 = .ok (.istore 4, 2) := by decide +kernel
theorem dX2_lineCard_15 : decode cX2_lineCard 15 = .ok (.aload_n 0, 1) := by decide +kernel
theorem dX2_lineCard_16 : decode cX2_lineCard 16 = .ok (.iload 4, 2) := by decide +kernel
theorem dX2_lineCard_18 : decode cX2_lineCard 18 = .ok (.iconst 0, 1) := by decide +kernel
theorem dX2_lineCard_19 : decode cX2_lineCard 19 = .ok (.invokevirtual 117, 3) := by decide +kernel
theorem dX2_lineCard_22 : decode cX2_lineCard 22 = .ok (.istore 5, 2) := by decide +kernel
theorem dX2_lineCard_24 : decode cX2_lineCard 24 = .ok (.iconst 0, 1) := by decide +kernel
theorem dX2_lineCard_25 : decode cX2_lineCard 25 = .ok (.istore 6, 2) := by decide +kernel
theorem dX2_lineCard_27 : decode cX2_lineCard 27 = .ok (.iload 6, 2) := by decide +kernel
theorem dX2_lineCard_29 : decode cX2_lineCard 29 = .ok (.bipush 16, 2) := by decide +kernel
theorem dX2_lineCard_31 : decode cX2_lineCard 31 = .ok (.if_icmp .ge 63, 3) := by decide +kernel
theorem dX2_lineCard_34 : decode cX2_lineCard 34 = .ok (.iload 4, 2) := by decide +kernel
theorem dX2_lineCard_36 : decode cX2_lineCard 36 = .ok (.invokestatic 120, 3) := by decide +kernel
theorem dX2_lineCard_39 : decode cX2_lineCard 39 = .ok (.ifCond .eq 55, 3) := by decide +kernel
theorem dX2_lineCard_42 : decode cX2_lineCard 42 = .ok (.aload_n 0, 1) := by decide +kernel
theorem dX2_lineCard_43 : decode cX2_lineCard 43 = .ok (.iload 4, 2) := by decide +kernel
theorem dX2_lineCard_45 : decode cX2_lineCard 45 = .ok (.iload 5, 2) := by decide +kernel
theorem dX2_lineCard_47 : decode cX2_lineCard 47 = .ok (.aload_n 0, 1) := by decide +kernel
theorem dX2_lineCard_48 : decode cX2_lineCard 48 = .ok (.getfield 74, 3) := by decide +kernel
theorem dX2_lineCard_51 : decode cX2_lineCard 51 = .ok (.isub, 1) := by decide +kernel
theorem dX2_lineCard_52 : decode cX2_lineCard 52 = .ok (.iload 6, 2) := by decide +kernel
theorem dX2_lineCard_54 : decode cX2_lineCard 54 = .ok (.invokevirtual 124, 3) := by decide +kernel
theorem dX2_lineCard_57 : decode cX2_lineCard 57 = .ok (.istore 7, 2) := by decide +kernel
theorem dX2_lineCard_59 : decode cX2_lineCard 59 = .ok (.iload 6, 2) := by decide +kernel
theorem dX2_lineCard_61 : decode cX2_lineCard 61 = .ok (.iload_n 3, 1) := by decide +kernel
theorem dX2_lineCard_62 : decode cX2_lineCard 62 = .ok (.if_icmp .ne 16, 3) := by decide +kernel
theorem dX2_lineCard_65 : decode cX2_lineCard 65 = .ok (.aload_n 0, 1) := by decide +kernel
theorem dX2_lineCard_66 : decode cX2_lineCard 66 = .ok (.getfield 32, 3) := by decide +kernel
theorem dX2_lineCard_69 : decode cX2_lineCard 69 = .ok (.iload 4, 2) := by decide +kernel
theorem dX2_lineCard_71 : decode cX2_lineCard 71 = .ok (.aaload, 1) := by decide +kernel
theorem dX2_lineCard_72 : decode cX2_lineCard 72 = .ok (.iload 7, 2) := by decide +kernel
theorem dX2_lineCard_74 : decode cX2_lineCard 74 = .ok (.invokevirtual 97, 3) := by decide +kernel
theorem dX2_lineCard_77 : decode cX2_lineCard 77 = .ok (.ireturn, 1) := by decide +kernel
theorem dX2_lineCard_78 : decode cX2_lineCard 78 = .ok (.aload_n 0, 1) := by decide +kernel
theorem dX2_lineCard_79 : decode cX2_lineCard 79 = .ok (.iload 4, 2) := by decide +kernel
theorem dX2_lineCard_81 : decode cX2_lineCard 81 = .ok (.iload 7, 2) := by decide +kernel
theorem dX2_lineCard_83 : decode cX2_lineCard 83 = .ok (.invokevirtual 128, 3) := by decide +kernel
theorem dX2_lineCard_86 : decode cX2_lineCard 86 = .ok (.istore 4, 2) := by decide +kernel
theorem dX2_lineCard_88 : decode cX2_lineCard 88 = .ok (.iinc 6 1, 3) := by decide +kernel
theorem dX2_lineCard_91 : decode cX2_lineCard 91 = .ok (.goto (-64), 3) := by decide +kernel
theorem dX2_lineCard_94 : decode cX2_lineCard 94 = .ok (.iconst (-1), 1) := by decide +kernel
theorem dX2_lineCard_95 : decode cX2_lineCard 95 = .ok (.ireturn, 1) := by decide +kernel
theorem dX2_bestFrom_0 : decode cX2_bestFrom 0 = .ok (.aload_n 0, 1) := by decide +kernel
theorem dX2_bestFrom_1 : decode cX2_bestFrom 1 = .ok (.getfield 77, 3) := by decide +kernel
theorem dX2_bestFrom_4 : decode cX2_bestFrom 4 = .ok (.aload_n 0, 1) := by decide +kernel
theorem dX2_bestFrom_5 : decode cX2_bestFrom 5 = .ok (.getfield 71, 3) := by decide +kernel
theorem dX2_bestFrom_8 : decode cX2_bestFrom 8 = .ok (.isub, 1) := by decide +kernel
theorem dX2_bestFrom_9 : decode cX2_bestFrom 9 = .ok (.istore_n 3, 1) := by decide +kernel
theorem dX2_bestFrom_10 : decode cX2_bestFrom 10 = .ok (.iload_n 3, 1) := by decide +kernel
theorem dX2_bestFrom_11 : decode cX2_bestFrom 11 = .ok (.ifCond .le 19, 3) := by decide +kernel
theorem dX2_bestFrom_14 : decode cX2_bestFrom 14 = .ok (.aload_n 0, 1) := by decide +kernel
theorem dX2_bestFrom_15 : decode cX2_bestFrom 15 = .ok (.iload_n 1, 1) := by decide +kernel
theorem dX2_bestFrom_16 : decode cX2_bestFrom 16 = .ok (.iload_n 3, 1) := by decide +kernel
theorem dX2_bestFrom_17 : decode cX2_bestFrom 17 = .ok (.iload_n 2, 1) := by decide +kernel
theorem dX2_bestFrom_18 : decode cX2_bestFrom 18 = .ok (.invokevirtual 131, 3) := by decide +kernel
theorem dX2_bestFrom_21 : decode cX2_bestFrom 21 = .ok (.ifCond .ne 9, 3) := by decide +kernel
theorem dX2_bestFrom_24 : decode cX2_bestFrom 24 = .ok (.iinc 3 (-1), 3) := by decide +kernel
theorem dX2_bestFrom_27 : decode cX2_bestFrom 27 = .ok (.goto (-17), 3) := by decide +kernel
theorem dX2_bestFrom_30 : decode cX2_bestFrom 30 = .ok (.iload_n 3, 1) := by decide +kernel
theorem dX2_bestFrom_31 : decode cX2_bestFrom 31 = .ok (.ireturn, 1) := by decide +kernel
theorem dX2_reaches_0 : decode cX2_reaches 0 = .ok (.iload_n 2, 1) := by decide +kernel
theorem dX2_reaches_1 : decode cX2_reaches 1 = .ok (.ifCond .le 36, 3) := by decide +kernel
theorem dX2_reaches_4 : decode cX2_reaches 4 = .ok (.iload_n 2, 1) := by decide +kernel
theorem dX2_reaches_5 : decode cX2_reaches 5 = .ok (.aload_n 0, 1) := by decide +kernel
theorem dX2_reaches_6 : decode cX2_reaches 6 = .ok (.getfield 77, 3) := by decide +kernel
theorem dX2_reaches_9 : decode cX2_reaches 9 = .ok (.aload_n 0, 1) := by decide +kernel
theorem dX2_reaches_10 : decode cX2_reaches 10 = .ok (.getfield 71, 3) := by decide +kernel
theorem dX2_reaches_13 : decode cX2_reaches 13 = .ok (.isub, 1) := by decide +kernel
theorem dX2_reaches_14 : decode cX2_reaches 14 = .ok (.if_icmp .gt 23, 3) := by decide +kernel
theorem dX2_reaches_17 : decode cX2_reaches 17 = .ok (.iload_n 1, 1) := by decide +kernel
theorem dX2_reaches_18 : decode cX2_reaches 18 = .ok (.invokestatic 120, 3) := by decide +kernel
theorem dX2_reaches_21 : decode cX2_reaches 21 = .ok (.ifCond .eq 16, 3) := by decide +kernel
theorem dX2_reaches_24 : decode cX2_reaches 24 = .ok (.iload_n 3, 1) := by decide +kernel
theorem dX2_reaches_25 : decode cX2_reaches 25 = .ok (.bipush 16, 2) := by decide +kernel
theorem dX2_reaches_27 : decode cX2_reaches 27 = .ok (.if_icmp .ge 10, 3) := by decide +kernel
theorem dX2_reaches_30 : decode cX2_reaches 30 = .ok (.aload_n 0, 1) := by decide +kernel
theorem dX2_reaches_31 : decode cX2_reaches 31 = .ok (.getfield 65, 3) := by decide +kernel
theorem dX2_reaches_34 : decode cX2_reaches 34 = .ok (.ifnonnull 13, 3) := by decide +kernel
theorem dX2_reaches_37 : decode cX2_reaches 37 = .ok (.iload_n 2, 1) := by decide +kernel
theorem dX2_reaches_38 : decode cX2_reaches 38 = .ok (.ifCond .gt 7, 3) := by decide +kernel
theorem dX2_reaches_41 : decode cX2_reaches 41 = .ok (.iconst 1, 1) := by decide +kernel
theorem dX2_reaches_42 : decode cX2_reaches 42 = .ok (.goto 4, 3) := by decide +kernel
theorem dX2_reaches_45 : decode cX2_reaches 45 = .ok (.iconst 0, 1) := by decide +kernel
theorem dX2_reaches_46 : decode cX2_reaches 46 = .ok (.ireturn, 1) := by decide +kernel
theorem dX2_reaches_47 : decode cX2_reaches 47 = .ok (.aload_n 0, 1) := by decide +kernel
theorem dX2_reaches_48 : decode cX2_reaches 48 = .ok (.iload_n 1, 1) := by decide +kernel
theorem dX2_reaches_49 : decode cX2_reaches 49 = .ok (.invokevirtual 135, 3) := by decide +kernel
theorem dX2_reaches_52 : decode cX2_reaches 52 = .ok (.istore 4, 2) := by decide +kernel
theorem dX2_reaches_54 : decode cX2_reaches 54 = .ok (.aload_n 0, 1) := by decide +kernel
theorem dX2_reaches_55 : decode cX2_reaches 55 = .ok (.iload 4, 2) := by decide +kernel
theorem dX2_reaches_57 : decode cX2_reaches 57 = .ok (.invokevirtual 138, 3) := by decide +kernel
theorem dX2_reaches_60 : decode cX2_reaches 60 = .ok (.istore 5, 2) := by decide +kernel
theorem dX2_reaches_62 : decode cX2_reaches 62 = .ok (.iload 5, 2) := by decide +kernel
theorem dX2_reaches_64 : decode cX2_reaches 64 = .ok (.iconst 3, 1) := by decide +kernel
theorem dX2_reaches_65 : decode cX2_reaches 65 = .ok (.ishr, 1) := by decide +kernel
theorem dX2_reaches_66 : decode cX2_reaches 66 = .ok (.istore 6, 2) := by decide +kernel
theorem dX2_reaches_68 : decode cX2_reaches 68 = .ok (.iload 5, 2) := by decide +kernel
theorem dX2_reaches_70 : decode cX2_reaches 70 = .ok (.bipush 7, 2) := by decide +kernel
theorem dX2_reaches_72 : decode cX2_reaches 72 = .ok (.iand, 1) := by decide +kernel
theorem dX2_reaches_73 : decode cX2_reaches 73 = .ok (.istore 7, 2) := by decide +kernel
theorem dX2_reaches_75 : decode cX2_reaches 75 = .ok (.iload_n 2, 1) := by decide +kernel
theorem dX2_reaches_76 : decode cX2_reaches 76 = .ok (.iload 6, 2) := by decide +kernel
theorem dX2_reaches_78 : decode cX2_reaches 78 = .ok (.if_icmp .le 9, 3) := by decide +kernel
theorem dX2_reaches_81 : decode cX2_reaches 81 = .ok (.iload_n 2, 1) := by decide +kernel
theorem dX2_reaches_82 : decode cX2_reaches 82 = .ok (.iload 7, 2) := by decide +kernel
theorem dX2_reaches_84 : decode cX2_reaches 84 = .ok (.if_icmp .lt 15, 3) := by decide +kernel
theorem dX2_reaches_87 : decode cX2_reaches 87 = .ok (.iload_n 2, 1) := by decide +kernel
theorem dX2_reaches_88 : decode cX2_reaches 88 = .ok (.iload 6, 2) := by decide +kernel
theorem dX2_reaches_90 : decode cX2_reaches 90 = .ok (.if_icmp .gt 7, 3) := by decide +kernel
theorem dX2_reaches_93 : decode cX2_reaches 93 = .ok (.iconst 1, 1) := by decide +kernel
theorem dX2_reaches_94 : decode cX2_reaches 94 = .ok (.goto 4, 3) := by decide +kernel
theorem dX2_reaches_97 : decode cX2_reaches 97 = .ok (.iconst 0, 1) := by decide +kernel
theorem dX2_reaches_98 : decode cX2_reaches 98 = .ok (.ireturn, 1) := by decide +kernel
theorem dX2_reaches_99 : decode cX2_reaches 99 = .ok (.iload_n 1, 1) := by decide +kernel
theorem dX2_reaches_100 : decode cX2_reaches 100 = .ok (.iconst 1, 1) := by decide +kernel
theorem dX2_reaches_101 : decode cX2_reaches 101 = .ok (.iand, 1) := by decide +kernel
theorem dX2_reaches_102 : decode cX2_reaches 102 = .ok (.aload_n 0, 1) := by decide +kernel
theorem dX2_reaches_103 : decode cX2_reaches 103 = .ok (.getfield 49, 3) := by decide +kernel
theorem dX2_reaches_106 : decode cX2_reaches 106 = .ok (.if_icmp .ne 7, 3) := by decide +kernel
theorem dX2_reaches_109 : decode cX2_reaches 109 = .ok (.iconst 1, 1) := by decide +kernel
theorem dX2_reaches_110 : decode cX2_reaches 110 = .ok (.goto 4, 3) := by decide +kernel
theorem dX2_reaches_113 : decode cX2_reaches 113 = .ok (.iconst 0, 1) := by decide +kernel
theorem dX2_reaches_114 : decode cX2_reaches 114 = .ok (.istore 8, 2) := by decide +kernel
theorem dX2_reaches_116 : decode cX2_reaches 116 = .ok (.iload 8, 2) := by decide +kernel
theorem dX2_reaches_118 : decode cX2_reaches 118 = .ok (.ifCond .ne 7, 3) := by decide +kernel
theorem dX2_reaches_121 : decode cX2_reaches 121 = .ok (.iconst 1, 1) := by decide +kernel
theorem dX2_reaches_122 : decode cX2_reaches 122 = .ok (.goto 4, 3) := by decide +kernel
theorem dX2_reaches_125 : decode cX2_reaches 125 = .ok (.iconst 0, 1) := by decide +kernel
theorem dX2_reaches_126 : decode cX2_reaches 126 = .ok (.istore 9, 2) := by decide +kernel
theorem dX2_reaches_128 : decode cX2_reaches 128 = .ok (.aload_n 0, 1) := by decide +kernel
theorem dX2_reaches_129 : decode cX2_reaches 129 = .ok (.getfield 32, 3) := by decide +kernel
theorem dX2_reaches_132 : decode cX2_reaches 132 = .ok (.iload_n 1, 1) := by decide +kernel
theorem dX2_reaches_133 : decode cX2_reaches 133 = .ok (.aaload, 1) := by decide +kernel
theorem dX2_reaches_134 : decode cX2_reaches 134 = .ok (.getfield 88, 3) := by decide +kernel
theorem dX2_reaches_137 : decode cX2_reaches 137 = .ok (.istore 10, 2) := by decide +kernel
theorem dX2_reaches_139 : decode cX2_reaches 139 = .ok (.iconst 0, 1) := by decide +kernel
theorem dX2_reaches_140 : decode cX2_reaches 140 = .ok (.istore 11, 2) := by decide +kernel
theorem dX2_reaches_142 : decode cX2_reaches 142 = .ok (.iload 11, 2) := by decide +kernel
theorem dX2_reaches_144 : decode cX2_reaches 144 = .ok (.iload 10, 2) := by decide +kernel
theorem dX2_reaches_146 : decode cX2_reaches 146 = .ok (.if_icmp .ge 70, 3) := by decide +kernel
theorem dX2_reaches_149 : decode cX2_reaches 149 = .ok (.iload 9, 2) := by decide +kernel
theorem dX2_reaches_151 : decode cX2_reaches 151 = .ok (.iload 8, 2) := by decide +kernel
theorem dX2_reaches_153 : decode cX2_reaches 153 = .ok (.if_icmp .eq 63, 3) := by decide +kernel
theorem dX2_reaches_156 : decode cX2_reaches 156 = .ok (.aload_n 0, 1) := by decide +kernel
theorem dX2_reaches_157 : decode cX2_reaches 157 = .ok (.iload_n 1, 1) := by decide +kernel
theorem dX2_reaches_158 : decode cX2_reaches 158 = .ok (.iload 11, 2) := by decide +kernel
theorem dX2_reaches_160 : decode cX2_reaches 160 = .ok (.invokevirtual 141, 3) := by decide +kernel
theorem dX2_reaches_163 : decode cX2_reaches 163 = .ok (.ifCond .eq 47, 3) := by decide +kernel
theorem dX2_reaches_166 : decode cX2_reaches 166 = .ok (.aload_n 0, 1) := by decide +kernel
theorem dX2_reaches_167 : decode cX2_reaches 167 = .ok (.getfield 74, 3) := by decide +kernel
theorem dX2_reaches_170 : decode cX2_reaches 170 = .ok (.istore 12, 2) := by decide +kernel
theorem dX2_reaches_172 : decode cX2_reaches 172 = .ok (.aload_n 0, 1) := by decide +kernel
theorem dX2_reaches_173 : decode cX2_reaches 173 = .ok (.iload_n 1, 1) := by decide +kernel
theorem dX2_reaches_174 : decode cX2_reaches 174 = .ok (.iload 11, 2) := by decide +kernel
theorem dX2_reaches_176 : decode cX2_reaches 176 = .ok (.invokevirtual 128, 3) := by decide +kernel
theorem dX2_reaches_179 : decode cX2_reaches 179 = .ok (.istore 13, 2) := by decide +kernel
theorem dX2_reaches_181 : decode cX2_reaches 181 = .ok (.aload_n 0, 1) := by decide +kernel
theorem dX2_reaches_182 : decode cX2_reaches 182 = .ok (.iload 13, 2) := by decide +kernel
theorem dX2_reaches_184 : decode cX2_reaches 184 = .ok (.iload_n 2, 1) := by decide +kernel
theorem dX2_reaches_185 : decode cX2_reaches 185 = .ok (.aload_n 0, 1) := by decide +kernel
theorem dX2_reaches_186 : decode cX2_reaches 186 = .ok (.getfield 74, 3) := by decide +kernel
theorem dX2_reaches_189 : decode cX2_reaches 189 = .ok (.isub, 1) := by decide +kernel
theorem dX2_reaches_190 : decode cX2_reaches 190 = .ok (.iload 12, 2) := by decide +kernel
theorem dX2_reaches_192 : decode cX2_reaches 192 = .ok (.iadd, 1) := by decide +kernel
theorem dX2_reaches_193 : decode cX2_reaches 193 = .ok (.iload_n 3, 1) := by decide +kernel
theorem dX2_reaches_194 : decode cX2_reaches 194 = .ok (.iconst 1, 1) := by decide +kernel
theorem dX2_reaches_195 : decode cX2_reaches 195 = .ok (.iadd, 1) := by decide +kernel
theorem dX2_reaches_196 : decode cX2_reaches 196 = .ok (.invokevirtual 131, 3) := by decide +kernel
theorem dX2_reaches_199 : decode cX2_reaches 199 = .ok (.istore 9, 2) := by decide +kernel
theorem dX2_reaches_201 : decode cX2_reaches 201 = .ok (.aload_n 0, 1) := by decide +kernel
theorem dX2_reaches_202 : decode cX2_reaches 202 = .ok (.iload_n 1, 1) := by decide +kernel
theorem dX2_reaches_203 : decode cX2_reaches 203 = .ok (.iload 11, 2) := by decide +kernel
theorem dX2_reaches_205 : decode cX2_reaches 205 = .ok (.iload 12, 2) := by decide +kernel
theorem dX2_reaches_207 : decode cX2_reaches 207 = .ok (.invokevirtual 145, 3) := by decide +kernel
theorem dX2_reaches_210 : decode cX2_reaches 210 = .ok (.iinc 11 1, 3) := by decide +kernel
theorem dX2_reaches_213 : decode cX2_reaches 213 = .ok (.goto (-71), 3) := by decide +kernel
theorem dX2_reaches_216 : decode cX2_reaches 216 = .ok (.iload 4, 2) := by decide +kernel
theorem dX2_reaches_218 : decode cX2_reaches 218 = .ok (.iconst (-1), 1) := by decide +kernel
theorem dX2_reaches_219 : decode cX2_reaches 219 = .ok (.if_icmp .eq 38, 3) := by decide +kernel
theorem dX2_reaches_222 : decode cX2_reaches 222 = .ok (.aload_n 0, 1) := by decide +kernel
theorem dX2_reaches_223 : decode cX2_reaches 223 = .ok (.getfield 20, 3) := by decide +kernel
theorem dX2_reaches_226 : decode cX2_reaches 226 = .ok (.iload 4, 2) := by decide +kernel
theorem dX2_reaches_228 : decode cX2_reaches 228 = .ok (.aload_n 0, 1) := by decide +kernel
theorem dX2_reaches_229 : decode cX2_reaches 229 = .ok (.getfield 68, 3) := by decide +kernel
theorem dX2_reaches_232 : decode cX2_reaches 232 = .ok (.bipush 6, 2) := by decide +kernel
theorem dX2_reaches_234 : decode cX2_reaches 234 = .ok (.ishl, 1) := by decide +kernel
theorem dX2_reaches_235 : decode cX2_reaches 235 = .ok (.iload 9, 2) := by decide +kernel
theorem dX2_reaches_237 : decode cX2_reaches 237 = .ok (.ifCond .eq 12, 3) := by decide +kernel
theorem dX2_reaches_240 : decode cX2_reaches 240 = .ok (.iload_n 2, 1) := by decide +kernel
theorem dX2_reaches_241 : decode cX2_reaches 241 = .ok (.iconst 3, 1) := by decide +kernel
theorem dX2_reaches_242 : decode cX2_reaches 242 = .ok (.ishl, 1) := by decide +kernel
theorem dX2_reaches_243 : decode cX2_reaches 243 = .ok (.iload 7, 2) := by decide +kernel
theorem dX2_reaches_245 : decode cX2_reaches 245 = .ok (.ior, 1) := by decide +kernel
theorem dX2_reaches_246 : decode cX2_reaches 246 = .ok (.goto 9, 3) := by decide +kernel
theorem dX2_reaches_249 : decode cX2_reaches 249 = .ok (.iload 6, 2) := by decide +kernel
theorem dX2_reaches_251 : decode cX2_reaches 251 = .ok (.iconst 3, 1) := by decide +kernel
theorem dX2_reaches_252 : decode cX2_reaches 252 = .ok (.ishl, 1) := by decide +kernel
theorem dX2_reaches_253 : decode cX2_reaches 253 = .ok (.iload_n 2, 1) := by decide +kernel
theorem dX2_reaches_254 : decode cX2_reaches 254 = .ok (.ior, 1) := by decide +kernel
theorem dX2_reaches_255 : decode cX2_reaches 255 = .ok (.ior, 1) := by decide +kernel
theorem dX2_reaches_256 : decode cX2_reaches 256 = .ok (.iastore, 1) := by decide +kernel
theorem dX2_reaches_257 : decode cX2_reaches 257 = .ok (.iload 9, 2) := by decide +kernel
theorem dX2_reaches_259 : decode cX2_reaches 259 = .ok (.ireturn, 1) := by decide +kernel
theorem dX2_boundsAt_0 : decode cX2_boundsAt 0 = .ok (.iload_n 1, 1) := by decide +kernel
theorem dX2_boundsAt_1 : decode cX2_boundsAt 1 = .ok (.ifCond .lt 30, 3) := by decide +kernel
theorem dX2_boundsAt_4 : decode cX2_boundsAt 4 = .ok (.iload_n 1, 1) := by decide +kernel
theorem dX2_boundsAt_5 : decode cX2_boundsAt 5 = .ok (.sipush 20736, 3) := by decide +kernel
theorem dX2_boundsAt_8 : decode cX2_boundsAt 8 = .ok (.if_icmp .ge 23, 3) := by decide +kernel
theorem dX2_boundsAt_11 : decode cX2_boundsAt 11 = .ok (.aload_n 0, 1) := by decide +kernel
theorem dX2_boundsAt_12 : decode cX2_boundsAt 12 = .ok (.getfield 20, 3) := by decide +kernel
theorem dX2_boundsAt_15 : decode cX2_boundsAt 15 = .ok (.iload_n 1, 1) := by decide +kernel
theorem dX2_boundsAt_16 : decode cX2_boundsAt 16 = .ok (.iaload, 1) := by decide +kernel
theorem dX2_boundsAt_17 : decode cX2_boundsAt 17 = .ok (.bipush 6, 2) := by decide +kernel
theorem dX2_boundsAt_19 : decode cX2_boundsAt 19 = .ok (.ishr, 1) := by decide +kernel
theorem dX2_boundsAt_20 : decode cX2_boundsAt 20 = .ok (.aload_n 0, 1) := by decide +kernel
theorem dX2_boundsAt_21 : decode cX2_boundsAt 21 = .ok (.getfield 68, 3) := by decide +kernel
theorem dX2_boundsAt_24 : decode cX2_boundsAt 24 = .ok (.if_icmp .ne 7, 3) := by decide +kernel
theorem dX2_boundsAt_27 : decode cX2_boundsAt 27 = .ok (.iconst 1, 1) := by decide +kernel
theorem dX2_boundsAt_28 : decode cX2_boundsAt 28 = .ok (.goto 4, 3) := by decide +kernel
theorem dX2_boundsAt_31 : decode cX2_boundsAt 31 = .ok (.iconst 0, 1) := by decide +kernel
theorem dX2_boundsAt_32 : decode cX2_boundsAt 32 = .ok (.istore_n 2, 1) := by decide +kernel
theorem dX2_boundsAt_33 : decode cX2_boundsAt 33 = .ok (.iload_n 2, 1) := by decide +kernel
theorem dX2_boundsAt_34 : decode cX2_boundsAt 34 = .ok (.ifCond .eq 15, 3) := by decide +kernel
theorem dX2_boundsAt_37 : decode cX2_boundsAt 37 = .ok (.aload_n 0, 1) := by decide +kernel
theorem dX2_boundsAt_38 : decode cX2_boundsAt 38 = .ok (.getfield 20, 3) := by decide +kernel
theorem dX2_boundsAt_41 : decode cX2_boundsAt 41 = .ok (.iload_n 1, 1) := by decide +kernel
theorem dX2_boundsAt_42 : decode cX2_boundsAt 42 = .ok (.iaload, 1) := by decide +kernel
theorem dX2_boundsAt_43 : decode cX2_boundsAt 43 = .ok (.bipush 63, 2) := by decide +kernel
theorem dX2_boundsAt_45 : decode cX2_boundsAt 45 = .ok (.iand, 1) := by decide +kernel
theorem dX2_boundsAt_46 : decode cX2_boundsAt 46 = .ok (.goto 14, 3) := by decide +kernel
theorem dX2_boundsAt_49 : decode cX2_boundsAt 49 = .ok (.aload_n 0, 1) := by decide +kernel
theorem dX2_boundsAt_50 : decode cX2_boundsAt 50 = .ok (.getfield 77, 3) := by decide +kernel
theorem dX2_boundsAt_53 : decode cX2_boundsAt 53 = .ok (.aload_n 0, 1) := by decide +kernel
theorem dX2_boundsAt_54 : decode cX2_boundsAt 54 = .ok (.getfield 71, 3) := by decide +kernel
theorem dX2_boundsAt_57 : decode cX2_boundsAt 57 = .ok (.isub, 1) := by decide +kernel
theorem dX2_boundsAt_58 : decode cX2_boundsAt 58 = .ok (.iconst 1, 1) := by decide +kernel
theorem dX2_boundsAt_59 : decode cX2_boundsAt 59 = .ok (.iadd, 1) := by decide +kernel
theorem dX2_boundsAt_60 : decode cX2_boundsAt 60 = .ok (.ireturn, 1) := by decide +kernel
theorem dX2_linePlace_0 : decode cX2_linePlace 0 = .ok (.iload_n 1, 1) := by decide +kernel
theorem dX2_linePlace_1 : decode cX2_linePlace 1 = .ok (.iconst 1, 1) := by decide +kernel
theorem dX2_linePlace_2 : decode cX2_linePlace 2 = .ok (.iand, 1) := by decide +kernel
theorem dX2_linePlace_3 : decode cX2_linePlace 3 = .ok (.aload_n 0, 1) := by decide +kernel
theorem dX2_linePlace_4 : decode cX2_linePlace 4 = .ok (.getfield 49, 3) := by decide +kernel
theorem dX2_linePlace_7 : decode cX2_linePlace 7 = .ok (.if_icmp .ne 7, 3) := by decide +kernel
theorem dX2_linePlace_10 : decode cX2_linePlace 10 = .ok (.iconst 1, 1) := by decide +kernel
theorem dX2_linePlace_11 : decode cX2_linePlace 11 = .ok (.goto 4, 3) := by decide +kernel
theorem dX2_linePlace_14 : decode cX2_linePlace 14 = .ok (.iconst 0, 1) := by decide +kernel
theorem dX2_linePlace_15 : decode cX2_linePlace 15 = .ok (.istore 4, 2) := by decide +kernel
theorem dX2_linePlace_17 : decode cX2_linePlace 17 = .ok (.aload_n 0, 1) := by decide +kernel
theorem dX2_linePlace_18 : decode cX2_linePlace 18 = .ok (.getfield 32, 3) := by decide +kernel
theorem dX2_linePlace_21 : decode cX2_linePlace 21 = .ok (.iload_n 1, 1) := by decide +kernel
theorem dX2_linePlace_22 : decode cX2_linePlace 22 = .ok (.iconst 3, 1) := by decide +kernel
theorem dX2_linePlace_23 : decode cX2_linePlace 23 = .ok (.iand, 1) := by decide +kernel
theorem dX2_linePlace_24 : decode cX2_linePlace 24 = .ok (.aaload, 1) := by decide +kernel
theorem dX2_linePlace_25 : decode cX2_linePlace 25 = .ok (.getfield 88, 3) := by decide +kernel
theorem dX2_linePlace_28 : decode cX2_linePlace 28 = .ok (.istore 5, 2) := by decide +kernel
theorem dX2_linePlace_30 : decode cX2_linePlace 30 = .ok (.iconst 0, 1) := by decide +kernel
theorem dX2_linePlace_31 : decode cX2_linePlace 31 = .ok (.istore 6, 2) := by decide +kernel
theorem dX2_linePlace_33 : decode cX2_linePlace 33 = .ok (.iload 6, 2) := by decide +kernel
theorem dX2_linePlace_35 : decode cX2_linePlace 35 = .ok (.iload 5, 2) := by decide +kernel
theorem dX2_linePlace_37 : decode cX2_linePlace 37 = .ok (.if_icmp .ge 104, 3) := by decide +kernel
theorem dX2_linePlace_40 : decode cX2_linePlace 40 = .ok (.aload_n 0, 1) := by decide +kernel
theorem dX2_linePlace_41 : decode cX2_linePlace 41 = .ok (.iload_n 1, 1) := by decide +kernel
theorem dX2_linePlace_42 : decode cX2_linePlace 42 = .ok (.iload 6, 2) := by decide +kernel
theorem dX2_linePlace_44 : decode cX2_linePlace 44 = .ok (.invokevirtual 141, 3) := by decide +kernel
theorem dX2_linePlace_47 : decode cX2_linePlace 47 = .ok (.ifCond .eq 88, 3) := by decide +kernel
theorem dX2_linePlace_50 : decode cX2_linePlace 50 = .ok (.aload_n 0, 1) := by decide +kernel
theorem dX2_linePlace_51 : decode cX2_linePlace 51 = .ok (.getfield 74, 3) := by decide +kernel
theorem dX2_linePlace_54 : decode cX2_linePlace 54 = .ok (.istore 7, 2) := by decide +kernel
theorem dX2_linePlace_56 : decode cX2_linePlace 56 = .ok (.aload_n 0, 1) := by decide +kernel
theorem dX2_linePlace_57 : decode cX2_linePlace 57 = .ok (.iload_n 1, 1) := by decide +kernel
theorem dX2_linePlace_58 : decode cX2_linePlace 58 = .ok (.iload 6, 2) := by decide +kernel
theorem dX2_linePlace_60 : decode cX2_linePlace 60 = .ok (.invokevirtual 128, 3) := by decide +kernel
theorem dX2_linePlace_63 : decode cX2_linePlace 63 = .ok (.istore 8, 2) := by decide +kernel
theorem dX2_linePlace_65 : decode cX2_linePlace 65 = .ok (.iload_n 2, 1) := by decide +kernel
theorem dX2_linePlace_66 : decode cX2_linePlace 66 = .ok (.aload_n 0, 1) := by decide +kernel
theorem dX2_linePlace_67 : decode cX2_linePlace 67 = .ok (.getfield 74, 3) := by decide +kernel
theorem dX2_linePlace_70 : decode cX2_linePlace 70 = .ok (.isub, 1) := by decide +kernel
theorem dX2_linePlace_71 : decode cX2_linePlace 71 = .ok (.iload 7, 2) := by decide +kernel
theorem dX2_linePlace_73 : decode cX2_linePlace 73 = .ok (.iadd, 1) := by decide +kernel
theorem dX2_linePlace_74 : decode cX2_linePlace 74 = .ok (.istore 9, 2) := by decide +kernel
theorem dX2_linePlace_76 : decode cX2_linePlace 76 = .ok (.iload 4, 2) := by decide +kernel
theorem dX2_linePlace_78 : decode cX2_linePlace 78 = .ok (.ifCond .eq 17, 3) := by decide +kernel
theorem dX2_linePlace_81 : decode cX2_linePlace 81 = .ok (.aload_n 0, 1) := by decide +kernel
theorem dX2_linePlace_82 : decode cX2_linePlace 82 = .ok (.iload 8, 2) := by decide +kernel
theorem dX2_linePlace_84 : decode cX2_linePlace 84 = .ok (.iload 9, 2) := by decide +kernel
theorem dX2_linePlace_86 : decode cX2_linePlace 86 = .ok (.iload_n 3, 1) := by decide +kernel
theorem dX2_linePlace_87 : decode cX2_linePlace 87 = .ok (.iconst 1, 1) := by decide +kernel
theorem dX2_linePlace_88 : decode cX2_linePlace 88 = .ok (.iadd, 1) := by decide +kernel
theorem dX2_linePlace_89 : decode cX2_linePlace 89 = .ok (.invokevirtual 131, 3) := by decide +kernel
theorem dX2_linePlace_92 : decode cX2_linePlace 92 = .ok (.goto 24, 3) := by decide +kernel
theorem dX2_linePlace_95 : decode cX2_linePlace 95 = .ok (.aload_n 0, 1) := by decide +kernel
theorem dX2_linePlace_96 : decode cX2_linePlace 96 = .ok (.iload 8, 2) := by decide +kernel
theorem dX2_linePlace_98 : decode cX2_linePlace 98 = .ok (.iload 9, 2) := by decide +kernel
theorem dX2_linePlace_100 : decode cX2_linePlace 100 = .ok (.iconst 1, 1) := by decide +kernel
theorem dX2_linePlace_101 : decode cX2_linePlace 101 = .ok (.iadd, 1) := by decide +kernel
theorem dX2_linePlace_102 : decode cX2_linePlace 102 = .ok (.iload_n 3, 1) := by decide +kernel
theorem dX2_linePlace_103 : decode cX2_linePlace 103 = .ok (.iconst 1, 1) := by decide +kernel
theorem dX2_linePlace_104 : decode cX2_linePlace 104 = .ok (.iadd, 1) := by decide +kernel
theorem dX2_linePlace_105 : decode cX2_linePlace 105 = .ok (.invokevirtual 131, 3) := by decide +kernel
theorem dX2_linePlace_108 : decode cX2_linePlace 108 = .ok (.ifCond .ne 7, 3) := by decide +kernel
theorem dX2_linePlace_111 : decode cX2_linePlace 111 = .ok (.iconst 1, 1) := by decide +kernel
theorem dX2_linePlace_112 : decode cX2_linePlace 112 = .ok (.goto 4, 3) := by decide +kernel
theorem dX2_linePlace_115 : decode cX2_linePlace 115 = .ok (.iconst 0, 1) := by decide +kernel
theorem dX2_linePlace_116 : decode cX2_linePlace 116 = .ok (.istore 10, 2) := by decide +kernel
theorem dX2_linePlace_118 : decode cX2_linePlace 118 = .ok (.aload_n 0, 1) := by decide +kernel
theorem dX2_linePlace_119 : decode cX2_linePlace 119 = .ok (.iload_n 1, 1) := by decide +kernel
theorem dX2_linePlace_120 : decode cX2_linePlace 120 = .ok (.iload 6, 2) := by decide +kernel
theorem dX2_linePlace_122 : decode cX2_linePlace 122 = .ok (.iload 7, 2) := by decide +kernel
theorem dX2_linePlace_124 : decode cX2_linePlace 124 = .ok (.invokevirtual 145, 3) := by decide +kernel
theorem dX2_linePlace_127 : decode cX2_linePlace 127 = .ok (.iload 10, 2) := by decide +kernel
theorem dX2_linePlace_129 : decode cX2_linePlace 129 = .ok (.ifCond .eq 6, 3) := by decide +kernel
theorem dX2_linePlace_132 : decode cX2_linePlace 132 = .ok (.iload 6, 2) := by decide +kernel
theorem dX2_linePlace_134 : decode cX2_linePlace 134 = .ok (.ireturn, 1) := by decide +kernel
theorem dX2_linePlace_135 : decode cX2_linePlace 135 = .ok (.iinc 6 1, 3) := by decide +kernel
theorem dX2_linePlace_138 : decode cX2_linePlace 138 = .ok (.goto (-105), 3) := by decide +kernel
theorem dX2_linePlace_141 : decode cX2_linePlace 141 = .ok (.iconst (-1), 1) := by decide +kernel
theorem dX2_linePlace_142 : decode cX2_linePlace 142 = .ok (.ireturn, 1) := by decide +kernel
theorem dX2_sureFrom_0 : decode cX2_sureFrom 0 = .ok (.iload_n 1, 1) := by decide +kernel
theorem dX2_sureFrom_1 : decode cX2_sureFrom 1 = .ok (.invokestatic 120, 3) := by decide +kernel
theorem dX2_sureFrom_4 : decode cX2_sureFrom 4 = .ok (.ifCond .eq 9, 3) := by decide +kernel
theorem dX2_sureFrom_7 : decode cX2_sureFrom 7 = .ok (.iload_n 2, 1) := by decide +kernel
theorem dX2_sureFrom_8 : decode cX2_sureFrom 8 = .ok (.bipush 16, 2) := by decide +kernel
theorem dX2_sureFrom_10 : decode cX2_sureFrom 10 = .ok (.if_icmp .lt 5, 3) := by decide +kernel
theorem dX2_sureFrom_13 : decode cX2_sureFrom 13 = .ok (.iconst 0, 1) := by decide +kernel
theorem dX2_sureFrom_14 : decode cX2_sureFrom 14 = .ok (.ireturn, 1) := by decide +kernel
theorem dX2_sureFrom_15 : decode cX2_sureFrom 15 = .ok (.aload_n 0, 1) := by decide +kernel
theorem dX2_sureFrom_16 : decode cX2_sureFrom 16 = .ok (.iload_n 1, 1) := by decide +kernel
theorem dX2_sureFrom_17 : decode cX2_sureFrom 17 = .ok (.invokevirtual 135, 3) := by decide +kernel
theorem dX2_sureFrom_20 : decode cX2_sureFrom 20 = .ok (.istore_n 3, 1) := by decide +kernel
theorem dX2_sureFrom_21 : decode cX2_sureFrom 21 = .ok (.iload_n 3, 1) := by decide +kernel
theorem dX2_sureFrom_22 : decode cX2_sureFrom 22 = .ok (.iconst (-1), 1) := by decide +kernel
theorem dX2_sureFrom_23 : decode cX2_sureFrom 23 = .ok (.if_icmp .eq 28, 3) := by decide +kernel
theorem dX2_sureFrom_26 : decode cX2_sureFrom 26 = .ok (.aload_n 0, 1) := by decide +kernel
theorem dX2_sureFrom_27 : decode cX2_sureFrom 27 = .ok (.getfield 24, 3) := by decide +kernel
theorem dX2_sureFrom_30 : decode cX2_sureFrom 30 = .ok (.iload_n 3, 1) := by decide +kernel
theorem dX2_sureFrom_31 : decode cX2_sureFrom 31 = .ok (.iaload, 1) := by decide +kernel
theorem dX2_sureFrom_32 : decode cX2_sureFrom 32 = .ok (.iconst 3, 1) := by decide +kernel
theorem dX2_sureFrom_33 : decode cX2_sureFrom 33 = .ok (.ishr, 1) := by decide +kernel
theorem dX2_sureFrom_34 : decode cX2_sureFrom 34 = .ok (.aload_n 0, 1) := by decide +kernel
theorem dX2_sureFrom_35 : decode cX2_sureFrom 35 = .ok (.getfield 68, 3) := by decide +kernel
theorem dX2_sureFrom_38 : decode cX2_sureFrom 38 = .ok (.if_icmp .ne 13, 3) := by decide +kernel
theorem dX2_sureFrom_41 : decode cX2_sureFrom 41 = .ok (.aload_n 0, 1) := by decide +kernel
theorem dX2_sureFrom_42 : decode cX2_sureFrom 42 = .ok (.getfield 24, 3) := by decide +kernel
theorem dX2_sureFrom_45 : decode cX2_sureFrom 45 = .ok (.iload_n 3, 1) := by decide +kernel
theorem dX2_sureFrom_46 : decode cX2_sureFrom 46 = .ok (.iaload, 1) := by decide +kernel
theorem dX2_sureFrom_47 : decode cX2_sureFrom 47 = .ok (.bipush 7, 2) := by decide +kernel
theorem dX2_sureFrom_49 : decode cX2_sureFrom 49 = .ok (.iand, 1) := by decide +kernel
theorem dX2_sureFrom_50 : decode cX2_sureFrom 50 = .ok (.ireturn, 1) := by decide +kernel
theorem dX2_sureFrom_51 : decode cX2_sureFrom 51 = .ok (.iload_n 1, 1) := by decide +kernel
theorem dX2_sureFrom_52 : decode cX2_sureFrom 52 = .ok (.iconst 1, 1) := by decide +kernel
theorem dX2_sureFrom_53 : decode cX2_sureFrom 53 = .ok (.iand, 1) := by decide +kernel
theorem dX2_sureFrom_54 : decode cX2_sureFrom 54 = .ok (.aload_n 0, 1) := by decide +kernel
theorem dX2_sureFrom_55 : decode cX2_sureFrom 55 = .ok (.getfield 49, 3) := by decide +kernel
theorem dX2_sureFrom_58 : decode cX2_sureFrom 58 = .ok (.if_icmp .ne 7, 3) := by decide +kernel
theorem dX2_sureFrom_61 : decode cX2_sureFrom 61 = .ok (.iconst 1, 1) := by decide +kernel
theorem dX2_sureFrom_62 : decode cX2_sureFrom 62 = .ok (.goto 4, 3) := by decide +kernel
theorem dX2_sureFrom_65 : decode cX2_sureFrom 65 = .ok (.iconst 0, 1) := by decide +kernel
theorem dX2_sureFrom_66 : decode cX2_sureFrom 66 = .ok (.istore 4, 2) := by decide +kernel
theorem dX2_sureFrom_68 : decode cX2_sureFrom 68 = .ok (.iload 4, 2) := by decide +kernel
theorem dX2_sureFrom_70 : decode cX2_sureFrom 70 = .ok (.ifCond .eq 18, 3) := by decide +kernel
theorem dX2_sureFrom_73 : decode cX2_sureFrom 73 = .ok (.aload_n 0, 1) := by decide +kernel
theorem dX2_sureFrom_74 : decode cX2_sureFrom 74 = .ok (.iload_n 1, 1) := by decide +kernel
theorem dX2_sureFrom_75 : decode cX2_sureFrom 75 = .ok (.aload_n 0, 1) := by decide +kernel
theorem dX2_sureFrom_76 : decode cX2_sureFrom 76 = .ok (.iload_n 1, 1) := by decide +kernel
theorem dX2_sureFrom_77 : decode cX2_sureFrom 77 = .ok (.iload_n 2, 1) := by decide +kernel
theorem dX2_sureFrom_78 : decode cX2_sureFrom 78 = .ok (.invokevirtual 117, 3) := by decide +kernel
theorem dX2_sureFrom_81 : decode cX2_sureFrom 81 = .ok (.iload_n 2, 1) := by decide +kernel
theorem dX2_sureFrom_82 : decode cX2_sureFrom 82 = .ok (.invokevirtual 124, 3) := by decide +kernel
theorem dX2_sureFrom_85 : decode cX2_sureFrom 85 = .ok (.goto 4, 3) := by decide +kernel
theorem dX2_sureFrom_88 : decode cX2_sureFrom 88 = .ok (.iconst (-1), 1) := by decide +kernel
theorem dX2_sureFrom_89 : decode cX2_sureFrom 89 = .ok (.istore 5, 2) := by decide +kernel
theorem dX2_sureFrom_91 : decode cX2_sureFrom 91 = .ok (.aload_n 0, 1) := by decide +kernel
theorem dX2_sureFrom_92 : decode cX2_sureFrom 92 = .ok (.getfield 77, 3) := by decide +kernel
theorem dX2_sureFrom_95 : decode cX2_sureFrom 95 = .ok (.aload_n 0, 1) := by decide +kernel
theorem dX2_sureFrom_96 : decode cX2_sureFrom 96 = .ok (.getfield 71, 3) := by decide +kernel
theorem dX2_sureFrom_99 : decode cX2_sureFrom 99 = .ok (.isub, 1) := by decide +kernel
theorem dX2_sureFrom_100 : decode cX2_sureFrom 100 = .ok (.istore 6, 2) := by decide +kernel
theorem dX2_sureFrom_102 : decode cX2_sureFrom 102 = .ok (.aload_n 0, 1) := by decide +kernel
theorem dX2_sureFrom_103 : decode cX2_sureFrom 103 = .ok (.getfield 32, 3) := by decide +kernel
theorem dX2_sureFrom_106 : decode cX2_sureFrom 106 = .ok (.iload_n 1, 1) := by decide +kernel
theorem dX2_sureFrom_107 : decode cX2_sureFrom 107 = .ok (.aaload, 1) := by decide +kernel
theorem dX2_sureFrom_108 : decode cX2_sureFrom 108 = .ok (.getfield 88, 3) := by decide +kernel
theorem dX2_sureFrom_111 : decode cX2_sureFrom 111 = .ok (.istore 7, 2) := by decide +kernel
theorem dX2_sureFrom_113 : decode cX2_sureFrom 113 = .ok (.iconst 0, 1) := by decide +kernel
theorem dX2_sureFrom_114 : decode cX2_sureFrom 114 = .ok (.istore 8, 2) := by decide +kernel
theorem dX2_sureFrom_116 : decode cX2_sureFrom 116 = .ok (.iload 8, 2) := by decide +kernel
theorem dX2_sureFrom_118 : decode cX2_sureFrom 118 = .ok (.iload 7, 2) := by decide +kernel
theorem dX2_sureFrom_120 : decode cX2_sureFrom 120 = .ok (.if_icmp .ge 82, 3) := by decide +kernel
theorem dX2_sureFrom_123 : decode cX2_sureFrom 123 = .ok (.iload 4, 2) := by decide +kernel
theorem dX2_sureFrom_125 : decode cX2_sureFrom 125 = .ok (.ifCond .eq 13, 3) := by decide +kernel
theorem dX2_sureFrom_128 : decode cX2_sureFrom 128 = .ok (.iload 8, 2) := by decide +kernel
theorem dX2_sureFrom_130 : decode cX2_sureFrom 130 = .ok (.iload 5, 2) := by decide +kernel
theorem dX2_sureFrom_132 : decode cX2_sureFrom 132 = .ok (.if_icmp .ne 64, 3) := by decide +kernel
theorem dX2_sureFrom_135 : decode cX2_sureFrom 135 = .ok (.goto 13, 3) := by decide +kernel
theorem dX2_sureFrom_138 : decode cX2_sureFrom 138 = .ok (.aload_n 0, 1) := by decide +kernel
theorem dX2_sureFrom_139 : decode cX2_sureFrom 139 = .ok (.iload_n 1, 1) := by decide +kernel
theorem dX2_sureFrom_140 : decode cX2_sureFrom 140 = .ok (.iload 8, 2) := by decide +kernel
theorem dX2_sureFrom_142 : decode cX2_sureFrom 142 = .ok (.invokevirtual 141, 3) := by decide +kernel
theorem dX2_sureFrom_145 : decode cX2_sureFrom 145 = .ok (.ifCond .eq 51, 3) := by decide +kernel
theorem dX2_sureFrom_148 : decode cX2_sureFrom 148 = .ok (.aload_n 0, 1) := by decide +kernel
theorem dX2_sureFrom_149 : decode cX2_sureFrom 149 = .ok (.getfield 74, 3) := by decide +kernel
theorem dX2_sureFrom_152 : decode cX2_sureFrom 152 = .ok (.istore 9, 2) := by decide +kernel
theorem dX2_sureFrom_154 : decode cX2_sureFrom 154 = .ok (.aload_n 0, 1) := by decide +kernel
theorem dX2_sureFrom_155 : decode cX2_sureFrom 155 = .ok (.iload_n 1, 1) := by decide +kernel
theorem dX2_sureFrom_156 : decode cX2_sureFrom 156 = .ok (.iload 8, 2) := by decide +kernel
theorem dX2_sureFrom_158 : decode cX2_sureFrom 158 = .ok (.invokevirtual 128, 3) := by decide +kernel
theorem dX2_sureFrom_161 : decode cX2_sureFrom 161 = .ok (.istore 10, 2) := by decide +kernel
theorem dX2_sureFrom_163 : decode cX2_sureFrom 163 = .ok (.iload 6, 2) := by decide +kernel
theorem dX2_sureFrom_165 : decode cX2_sureFrom 165 = .ok (.aload_n 0, 1) := by decide +kernel
theorem dX2_sureFrom_166 : decode cX2_sureFrom 166 = .ok (.getfield 74, 3) := by decide +kernel
theorem dX2_sureFrom_169 : decode cX2_sureFrom 169 = .ok (.iload 9, 2) := by decide +kernel
theorem dX2_sureFrom_171 : decode cX2_sureFrom 171 = .ok (.isub, 1) := by decide +kernel
theorem dX2_sureFrom_172 : decode cX2_sureFrom 172 = .ok (.aload_n 0, 1) := by decide +kernel
theorem dX2_sureFrom_173 : decode cX2_sureFrom 173 = .ok (.iload 10, 2) := by decide +kernel
theorem dX2_sureFrom_175 : decode cX2_sureFrom 175 = .ok (.iload_n 2, 1) := by decide +kernel
theorem dX2_sureFrom_176 : decode cX2_sureFrom 176 = .ok (.iconst 1, 1) := by decide +kernel
theorem dX2_sureFrom_177 : decode cX2_sureFrom 177 = .ok (.iadd, 1) := by decide +kernel
theorem dX2_sureFrom_178 : decode cX2_sureFrom 178 = .ok (.invokevirtual 149, 3) := by decide +kernel
theorem dX2_sureFrom_181 : decode cX2_sureFrom 181 = .ok (.iadd, 1) := by decide +kernel
theorem dX2_sureFrom_182 : decode cX2_sureFrom 182 = .ok (.invokestatic 152, 3) := by decide +kernel
theorem dX2_sureFrom_185 : decode cX2_sureFrom 185 = .ok (.istore 6, 2) := by decide +kernel
theorem dX2_sureFrom_187 : decode cX2_sureFrom 187 = .ok (.aload_n 0, 1) := by decide +kernel
theorem dX2_sureFrom_188 : decode cX2_sureFrom 188 = .ok (.iload_n 1, 1) := by decide +kernel
theorem dX2_sureFrom_189 : decode cX2_sureFrom 189 = .ok (.iload 8, 2) := by decide +kernel
theorem dX2_sureFrom_191 : decode cX2_sureFrom 191 = .ok (.iload 9, 2) := by decide +kernel
theorem dX2_sureFrom_193 : decode cX2_sureFrom 193 = .ok (.invokevirtual 145, 3) := by decide +kernel
theorem dX2_sureFrom_196 : decode cX2_sureFrom 196 = .ok (.iinc 8 1, 3) := by decide +kernel
theorem dX2_sureFrom_199 : decode cX2_sureFrom 199 = .ok (.goto (-83), 3) := by decide +kernel
theorem dX2_sureFrom_202 : decode cX2_sureFrom 202 = .ok (.iload_n 3, 1) := by decide +kernel
theorem dX2_sureFrom_203 : decode cX2_sureFrom 203 = .ok (.iconst (-1), 1) := by decide +kernel
theorem dX2_sureFrom_204 : decode cX2_sureFrom 204 = .ok (.if_icmp .eq 18, 3) := by decide +kernel
theorem dX2_sureFrom_207 : decode cX2_sureFrom 207 = .ok (.aload_n 0, 1) := by decide +kernel
theorem dX2_sureFrom_208 : decode cX2_sureFrom 208 = .ok (.getfield 24, 3) := by decide +kernel
theorem dX2_sureFrom_211 : decode cX2_sureFrom 211 = .ok (.iload_n 3, 1) := by decide +kernel
theorem dX2_sureFrom_212 : decode cX2_sureFrom 212 = .ok (.aload_n 0, 1) := by decide +kernel
theorem dX2_sureFrom_213 : decode cX2_sureFrom 213 = .ok (.getfield 68, 3) := by decide +kernel
theorem dX2_sureFrom_216 : decode cX2_sureFrom 216 = .ok (.iconst 3, 1) := by decide +kernel
theorem dX2_sureFrom_217 : decode cX2_sureFrom 217 = .ok (.ishl, 1) := by decide +kernel
theorem dX2_sureFrom_218 : decode cX2_sureFrom 218 = .ok (.iload 6, 2) := by decide +kernel
theorem dX2_sureFrom_220 : decode cX2_sureFrom 220 = .ok (.ior, 1) := by decide +kernel
theorem dX2_sureFrom_221 : decode cX2_sureFrom 221 = .ok (.iastore, 1) := by decide +kernel
theorem dX2_sureFrom_222 : decode cX2_sureFrom 222 = .ok (.iload 6, 2) := by decide +kernel
theorem dX2_sureFrom_224 : decode cX2_sureFrom 224 = .ok (.ireturn, 1) := by decide +kernel
theorem dX2_lets_0 : decode cX2_lets 0 = .ok (.aload_n 0, 1) := by decide +kernel
theorem dX2_lets_1 : decode cX2_lets 1 = .ok (.getfield 32, 3) := by decide +kernel
theorem dX2_lets_4 : decode cX2_lets 4 = .ok (.iload_n 1, 1) := by decide +kernel
theorem dX2_lets_5 : decode cX2_lets 5 = .ok (.iconst 3, 1) := by decide +kernel
theorem dX2_lets_6 : decode cX2_lets 6 = .ok (.iand, 1) := by decide +kernel
theorem dX2_lets_7 : decode cX2_lets 7 = .ok (.aaload, 1) := by decide +kernel
theorem dX2_lets_8 : decode cX2_lets 8 = .ok (.astore_n 3, 1) := by decide +kernel
theorem dX2_lets_9 : decode cX2_lets 9 = .ok (.aload_n 0, 1) := by decide +kernel
theorem dX2_lets_10 : decode cX2_lets 10 = .ok (.getfield 65, 3) := by decide +kernel
theorem dX2_lets_13 : decode cX2_lets 13 = .ok (.ifnull 40, 3) := by decide +kernel
theorem dX2_lets_16 : decode cX2_lets 16 = .ok (.aload_n 0, 1) := by decide +kernel
theorem dX2_lets_17 : decode cX2_lets 17 = .ok (.getfield 65, 3) := by decide +kernel
theorem dX2_lets_20 : decode cX2_lets 20 = .ok (.aload_n 0, 1) := by decide +kernel
theorem dX2_lets_21 : decode cX2_lets 21 = .ok (.getfield 14, 3) := by decide +kernel
theorem dX2_lets_24 : decode cX2_lets 24 = .ok (.aload_n 0, 1) := by decide +kernel
theorem dX2_lets_25 : decode cX2_lets 25 = .ok (.getfield 45, 3) := by decide +kernel
theorem dX2_lets_28 : decode cX2_lets 28 = .ok (.aload_n 3, 1) := by decide +kernel
theorem dX2_lets_29 : decode cX2_lets 29 = .ok (.aload_n 0, 1) := by decide +kernel
theorem dX2_lets_30 : decode cX2_lets 30 = .ok (.getfield 36, 3) := by decide +kernel
theorem dX2_lets_33 : decode cX2_lets 33 = .ok (.aload_n 0, 1) := by decide +kernel
theorem dX2_lets_34 : decode cX2_lets 34 = .ok (.getfield 71, 3) := by decide +kernel
theorem dX2_lets_37 : decode cX2_lets 37 = .ok (.aaload, 1) := by decide +kernel
theorem dX2_lets_38 : decode cX2_lets 38 = .ok (.aload_n 3, 1) := by decide +kernel
theorem dX2_lets_39 : decode cX2_lets 39 = .ok (.iload_n 2, 1) := by decide +kernel
theorem dX2_lets_40 : decode cX2_lets 40 = .ok (.invokevirtual 97, 3) := by decide +kernel
theorem dX2_lets_43 : decode cX2_lets 43 = .ok (.invokevirtual 155, 3) := by decide +kernel
theorem dX2_lets_46 : decode cX2_lets 46 = .ok (.ifCond .ne 7, 3) := by decide +kernel
theorem dX2_lets_49 : decode cX2_lets 49 = .ok (.iconst 1, 1) := by decide +kernel
theorem dX2_lets_50 : decode cX2_lets 50 = .ok (.goto 4, 3) := by decide +kernel
theorem dX2_lets_53 : decode cX2_lets 53 = .ok (.iconst 0, 1) := by decide +kernel
theorem dX2_lets_54 : decode cX2_lets 54 = .ok (.ireturn, 1) := by decide +kernel
theorem dX2_keyOf_0 : decode cX2_keyOf 0 = .ok (.aload_n 0, 1) := by decide +kernel
theorem dX2_keyOf_1 : decode cX2_keyOf 1 = .ok (.getfield 71, 3) := by decide +kernel
theorem dX2_keyOf_4 : decode cX2_keyOf 4 = .ok (.iconst 4, 1) := by decide +kernel
theorem dX2_keyOf_5 : decode cX2_keyOf 5 = .ok (.if_icmp .ge 18, 3) := by decide +kernel
theorem dX2_keyOf_8 : decode cX2_keyOf 8 = .ok (.aload_n 0, 1) := by decide +kernel
theorem dX2_keyOf_9 : decode cX2_keyOf 9 = .ok (.getfield 36, 3) := by decide +kernel
theorem dX2_keyOf_12 : decode cX2_keyOf 12 = .ok (.aload_n 0, 1) := by decide +kernel
theorem dX2_keyOf_13 : decode cX2_keyOf 13 = .ok (.getfield 71, 3) := by decide +kernel
theorem dX2_keyOf_16 : decode cX2_keyOf 16 = .ok (.aaload, 1) := by decide +kernel
theorem dX2_keyOf_17 : decode cX2_keyOf 17 = .ok (.getfield 88, 3) := by decide +kernel
theorem dX2_keyOf_20 : decode cX2_keyOf 20 = .ok (.ifCond .eq 5, 3) := by decide +kernel
theorem dX2_keyOf_23 : decode cX2_keyOf 23 = .ok (.iconst (-1), 1) := by decide +kernel
theorem dX2_keyOf_24 : decode cX2_keyOf 24 = .ok (.ireturn, 1) := by decide +kernel
theorem dX2_keyOf_25 : decode cX2_keyOf 25 = .ok (.aload_n 0, 1) := by decide +kernel
theorem dX2_keyOf_26 : decode cX2_keyOf 26 = .ok (.getfield 71, 3) := by decide +kernel
theorem dX2_keyOf_29 : decode cX2_keyOf 29 = .ok (.iconst 4, 1) := by decide +kernel
theorem dX2_keyOf_30 : decode cX2_keyOf 30 = .ok (.imul, 1) := by decide +kernel
theorem dX2_keyOf_31 : decode cX2_keyOf 31 = .ok (.iload_n 1, 1) := by decide +kernel
theorem dX2_keyOf_32 : decode cX2_keyOf 32 = .ok (.iadd, 1) := by decide +kernel
theorem dX2_keyOf_33 : decode cX2_keyOf 33 = .ok (.istore_n 2, 1) := by decide +kernel
theorem dX2_keyOf_34 : decode cX2_keyOf 34 = .ok (.iconst 0, 1) := by decide +kernel
theorem dX2_keyOf_35 : decode cX2_keyOf 35 = .ok (.istore_n 3, 1) := by decide +kernel
theorem dX2_keyOf_36 : decode cX2_keyOf 36 = .ok (.iload_n 3, 1) := by decide +kernel
theorem dX2_keyOf_37 : decode cX2_keyOf 37 = .ok (.iconst 4, 1) := by decide +kernel
theorem dX2_keyOf_38 : decode cX2_keyOf 38 = .ok (.if_icmp .ge 91, 3) := by decide +kernel
theorem dX2_keyOf_41 : decode cX2_keyOf 41 = .ok (.aload_n 0, 1) := by decide +kernel
theorem dX2_keyOf_42 : decode cX2_keyOf 42 = .ok (.getfield 32, 3) := by decide +kernel
theorem dX2_keyOf_45 : decode cX2_keyOf 45 = .ok (.iload_n 3, 1) := by decide +kernel
theorem dX2_keyOf_46 : decode cX2_keyOf 46 = .ok (.aaload, 1) := by decide +kernel
theorem dX2_keyOf_47 : decode cX2_keyOf 47 = .ok (.astore 4, 2) := by decide +kernel
theorem dX2_keyOf_49 : decode cX2_keyOf 49 = .ok (.iconst 0, 1) := by decide +kernel
theorem dX2_keyOf_50 : decode cX2_keyOf 50 = .ok (.istore 5, 2) := by decide +kernel
theorem dX2_keyOf_52 : decode cX2_keyOf 52 = .ok (.iconst 0, 1) := by decide +kernel
theorem dX2_keyOf_53 : decode cX2_keyOf 53 = .ok (.istore 6, 2) := by decide +kernel
theorem dX2_keyOf_55 : decode cX2_keyOf 55 = .ok (.iload 6, 2) := by decide +kernel
theorem dX2_keyOf_57 : decode cX2_keyOf 57 = .ok (.aload 4, 2) := by decide +kernel
theorem dX2_keyOf_59 : decode cX2_keyOf 59 = .ok (.getfield 88, 3) := by decide +kernel
theorem dX2_keyOf_62 : decode cX2_keyOf 62 = .ok (.if_icmp .ge 46, 3) := by decide +kernel
theorem dX2_keyOf_65 : decode cX2_keyOf 65 = .ok (.aload 4, 2) := by decide +kernel
theorem dX2_keyOf_67 : decode cX2_keyOf 67 = .ok (.iload 6, 2) := by decide +kernel
theorem dX2_keyOf_69 : decode cX2_keyOf 69 = .ok (.invokevirtual 97, 3) := by decide +kernel
theorem dX2_keyOf_72 : decode cX2_keyOf 72 = .ok (.istore 7, 2) := by decide +kernel
theorem dX2_keyOf_74 : decode cX2_keyOf 74 = .ok (.iload 5, 2) := by decide +kernel
theorem dX2_keyOf_76 : decode cX2_keyOf 76 = .ok (.iload 7, 2) := by decide +kernel
theorem dX2_keyOf_78 : decode cX2_keyOf 78 = .ok (.ifCond .lt 20, 3) := by decide +kernel
theorem dX2_keyOf_81 : decode cX2_keyOf 81 = .ok (.iload 7, 2) := by decide +kernel
theorem dX2_keyOf_83 : decode cX2_keyOf 83 = .ok (.bipush 60, 2) := by decide +kernel
theorem dX2_keyOf_85 : decode cX2_keyOf 85 = .ok (.if_icmp .ge 13, 3) := by decide +kernel
theorem dX2_keyOf_88 : decode cX2_keyOf 88 = .ok (.aload_n 0, 1) := by decide +kernel
theorem dX2_keyOf_89 : decode cX2_keyOf 89 = .ok (.getfield 27, 3) := by decide +kernel
theorem dX2_keyOf_92 : decode cX2_keyOf 92 = .ok (.iload 7, 2) := by decide +kernel
theorem dX2_keyOf_94 : decode cX2_keyOf 94 = .ok (.iaload, 1) := by decide +kernel
theorem dX2_keyOf_95 : decode cX2_keyOf 95 = .ok (.goto 4, 3) := by decide +kernel
theorem dX2_keyOf_98 : decode cX2_keyOf 98 = .ok (.iconst 0, 1) := by decide +kernel
theorem dX2_keyOf_99 : decode cX2_keyOf 99 = .ok (.ior, 1) := by decide +kernel
theorem dX2_keyOf_100 : decode cX2_keyOf 100 = .ok (.istore 5, 2) := by decide +kernel
theorem dX2_keyOf_102 : decode cX2_keyOf 102 = .ok (.iinc 6 1, 3) := by decide +kernel
theorem dX2_keyOf_105 : decode cX2_keyOf 105 = .ok (.goto (-50), 3) := by decide +kernel
theorem dX2_keyOf_108 : decode cX2_keyOf 108 = .ok (.iload_n 2, 1) := by decide +kernel
theorem dX2_keyOf_109 : decode cX2_keyOf 109 = .ok (.bipush 6, 2) := by decide +kernel
theorem dX2_keyOf_111 : decode cX2_keyOf 111 = .ok (.imul, 1) := by decide +kernel
theorem dX2_keyOf_112 : decode cX2_keyOf 112 = .ok (.getstatic 161, 3) := by decide +kernel
theorem dX2_keyOf_115 : decode cX2_keyOf 115 = .ok (.iload 5, 2) := by decide +kernel
theorem dX2_keyOf_117 : decode cX2_keyOf 117 = .ok (.bipush 15, 2) := by decide +kernel
theorem dX2_keyOf_119 : decode cX2_keyOf 119 = .ok (.iand, 1) := by decide +kernel
theorem dX2_keyOf_120 : decode cX2_keyOf 120 = .ok (.iaload, 1) := by decide +kernel
theorem dX2_keyOf_121 : decode cX2_keyOf 121 = .ok (.iadd, 1) := by decide +kernel
theorem dX2_keyOf_122 : decode cX2_keyOf 122 = .ok (.istore_n 2, 1) := by decide +kernel
theorem dX2_keyOf_123 : decode cX2_keyOf 123 = .ok (.iinc 3 1, 3) := by decide +kernel
theorem dX2_keyOf_126 : decode cX2_keyOf 126 = .ok (.goto (-90), 3) := by decide +kernel
theorem dX2_keyOf_129 : decode cX2_keyOf 129 = .ok (.iload_n 2, 1) := by decide +kernel
theorem dX2_keyOf_130 : decode cX2_keyOf 130 = .ok (.ifCond .lt 14, 3) := by decide +kernel
theorem dX2_keyOf_133 : decode cX2_keyOf 133 = .ok (.iload_n 2, 1) := by decide +kernel
theorem dX2_keyOf_134 : decode cX2_keyOf 134 = .ok (.sipush 20736, 3) := by decide +kernel
theorem dX2_keyOf_137 : decode cX2_keyOf 137 = .ok (.if_icmp .ge 7, 3) := by decide +kernel
theorem dX2_keyOf_140 : decode cX2_keyOf 140 = .ok (.iload_n 2, 1) := by decide +kernel
theorem dX2_keyOf_141 : decode cX2_keyOf 141 = .ok (.goto 4, 3) := by decide +kernel
theorem dX2_keyOf_144 : decode cX2_keyOf 144 = .ok (.iconst (-1), 1) := by decide +kernel
theorem dX2_keyOf_145 : decode cX2_keyOf 145 = .ok (.ireturn, 1) := by decide +kernel
theorem dX2_nextAble_0 : decode cX2_nextAble 0 = .ok (.iconst 0, 1) := by decide +kernel
theorem dX2_nextAble_1 : decode cX2_nextAble 1 = .ok (.istore_n 2, 1) := by decide +kernel
theorem dX2_nextAble_2 : decode cX2_nextAble 2 = .ok (.iload_n 2, 1) := by decide +kernel
theorem dX2_nextAble_3 : decode cX2_nextAble 3 = .ok (.iconst 4, 1) := by decide +kernel
theorem dX2_nextAble_4 : decode cX2_nextAble 4 = .ok (.if_icmp .ge 46, 3) := by decide +kernel
theorem dX2_nextAble_7 : decode cX2_nextAble 7 = .ok (.iload_n 1, 1) := by decide +kernel
theorem dX2_nextAble_8 : decode cX2_nextAble 8 = .ok (.iload_n 2, 1) := by decide +kernel
theorem dX2_nextAble_9 : decode cX2_nextAble 9 = .ok (.iadd, 1) := by decide +kernel
theorem dX2_nextAble_10 : decode cX2_nextAble 10 = .ok (.iconst 3, 1) := by decide +kernel
theorem dX2_nextAble_11 : decode cX2_nextAble 11 = .ok (.iand, 1) := by decide +kernel
theorem dX2_nextAble_12 : decode cX2_nextAble 12 = .ok (.istore_n 3, 1) := by decide +kernel
theorem dX2_nextAble_13 : decode cX2_nextAble 13 = .ok (.aload_n 0, 1) := by decide +kernel
theorem dX2_nextAble_14 : decode cX2_nextAble 14 = .ok (.getfield 32, 3) := by decide +kernel
theorem dX2_nextAble_17 : decode cX2_nextAble 17 = .ok (.iload_n 3, 1) := by decide +kernel
theorem dX2_nextAble_18 : decode cX2_nextAble 18 = .ok (.aaload, 1) := by decide +kernel
theorem dX2_nextAble_19 : decode cX2_nextAble 19 = .ok (.getfield 88, 3) := by decide +kernel
theorem dX2_nextAble_22 : decode cX2_nextAble 22 = .ok (.ifCond .le 22, 3) := by decide +kernel
theorem dX2_nextAble_25 : decode cX2_nextAble 25 = .ok (.aload_n 0, 1) := by decide +kernel
theorem dX2_nextAble_26 : decode cX2_nextAble 26 = .ok (.getfield 39, 3) := by decide +kernel
theorem dX2_nextAble_29 : decode cX2_nextAble 29 = .ok (.aload_n 0, 1) := by decide +kernel
theorem dX2_nextAble_30 : decode cX2_nextAble 30 = .ok (.getfield 71, 3) := by decide +kernel
theorem dX2_nextAble_33 : decode cX2_nextAble 33 = .ok (.aaload, 1) := by decide +kernel
theorem dX2_nextAble_34 : decode cX2_nextAble 34 = .ok (.iload_n 3, 1) := by decide +kernel
theorem dX2_nextAble_35 : decode cX2_nextAble 35 = .ok (.invokevirtual 164, 3) := by decide +kernel
theorem dX2_nextAble_38 : decode cX2_nextAble 38 = .ok (.iconst (-1), 1) := by decide +kernel
theorem dX2_nextAble_39 : decode cX2_nextAble 39 = .ok (.if_icmp .ne 5, 3) := by decide +kernel
theorem dX2_nextAble_42 : decode cX2_nextAble 42 = .ok (.iload_n 3, 1) := by decide +kernel
theorem dX2_nextAble_43 : decode cX2_nextAble 43 = .ok (.ireturn, 1) := by decide +kernel
theorem dX2_nextAble_44 : decode cX2_nextAble 44 = .ok (.iinc 2 1, 3) := by decide +kernel
theorem dX2_nextAble_47 : decode cX2_nextAble 47 = .ok (.goto (-45), 3) := by decide +kernel
theorem dX2_nextAble_50 : decode cX2_nextAble 50 = .ok (.iconst (-1), 1) := by decide +kernel
theorem dX2_nextAble_51 : decode cX2_nextAble 51 = .ok (.ireturn, 1) := by decide +kernel
theorem dX2_forward_0 : decode cX2_forward 0 = .ok (.aload_n 0, 1) := by decide +kernel
theorem dX2_forward_1 : decode cX2_forward 1 = .ok (.getfield 36, 3) := by decide +kernel
theorem dX2_forward_4 : decode cX2_forward 4 = .ok (.aload_n 0, 1) := by decide +kernel
theorem dX2_forward_5 : decode cX2_forward 5 = .ok (.getfield 71, 3) := by decide +kernel
theorem dX2_forward_8 : decode cX2_forward 8 = .ok (.aaload, 1) := by decide +kernel
theorem dX2_forward_9 : decode cX2_forward 9 = .ok (.astore_n 3, 1) := by decide +kernel
theorem dX2_forward_10 : decode cX2_forward 10 = .ok (.aload_n 0, 1) := by decide +kernel
theorem dX2_forward_11 : decode cX2_forward 11 = .ok (.getfield 39, 3) := by decide +kernel
theorem dX2_forward_14 : decode cX2_forward 14 = .ok (.aload_n 0, 1) := by decide +kernel
theorem dX2_forward_15 : decode cX2_forward 15 = .ok (.getfield 71, 3) := by decide +kernel
theorem dX2_forward_18 : decode cX2_forward 18 = .ok (.aaload, 1) := by decide +kernel
theorem dX2_forward_19 : decode cX2_forward 19 = .ok (.astore 4, 2) := by decide +kernel
theorem dX2_forward_21 : decode cX2_forward 21 = .ok (.aload_n 3, 1) := by decide +kernel
theorem dX2_forward_22 : decode cX2_forward 22 = .ok (.aload_n 0, 1) := by decide +kernel
theorem dX2_forward_23 : decode cX2_forward 23 = .ok (.getfield 32, 3) := by decide +kernel
theorem dX2_forward_26 : decode cX2_forward 26 = .ok (.iload_n 1, 1) := by decide +kernel
theorem dX2_forward_27 : decode cX2_forward 27 = .ok (.iconst 3, 1) := by decide +kernel
theorem dX2_forward_28 : decode cX2_forward 28 = .ok (.iand, 1) := by decide +kernel
theorem dX2_forward_29 : decode cX2_forward 29 = .ok (.aaload, 1) := by decide +kernel
theorem dX2_forward_30 : decode cX2_forward 30 = .ok (.iload_n 2, 1) := by decide +kernel
theorem dX2_forward_31 : decode cX2_forward 31 = .ok (.invokevirtual 167, 3) := by decide +kernel
theorem dX2_forward_34 : decode cX2_forward 34 = .ok (.invokevirtual 170, 3) := by decide +kernel
theorem dX2_forward_37 : decode cX2_forward 37 = .ok (.aload 4, 2) := by decide +kernel
theorem dX2_forward_39 : decode cX2_forward 39 = .ok (.iload_n 1, 1) := by decide +kernel
theorem dX2_forward_40 : decode cX2_forward 40 = .ok (.invokevirtual 170, 3) := by decide +kernel
theorem dX2_forward_43 : decode cX2_forward 43 = .ok (.aload_n 0, 1) := by decide +kernel
theorem dX2_forward_44 : decode cX2_forward 44 = .ok (.iload_n 1, 1) := by decide +kernel
theorem dX2_forward_45 : decode cX2_forward 45 = .ok (.iconst 1, 1) := by decide +kernel
theorem dX2_forward_46 : decode cX2_forward 46 = .ok (.iadd, 1) := by decide +kernel
theorem dX2_forward_47 : decode cX2_forward 47 = .ok (.invokevirtual 173, 3) := by decide +kernel
theorem dX2_forward_50 : decode cX2_forward 50 = .ok (.istore 5, 2) := by decide +kernel
theorem dX2_forward_52 : decode cX2_forward 52 = .ok (.iload 5, 2) := by decide +kernel
theorem dX2_forward_54 : decode cX2_forward 54 = .ok (.iconst (-1), 1) := by decide +kernel
theorem dX2_forward_55 : decode cX2_forward 55 = .ok (.if_icmp .ne 10, 3) := by decide +kernel
theorem dX2_forward_58 : decode cX2_forward 58 = .ok (.aload_n 0, 1) := by decide +kernel
theorem dX2_forward_59 : decode cX2_forward 59 = .ok (.getfield 65, 3) := by decide +kernel
theorem dX2_forward_62 : decode cX2_forward 62 = .ok (.ifnonnull 6, 3) := by decide +kernel
theorem dX2_forward_65 : decode cX2_forward 65 = .ok (.iload 5, 2) := by decide +kernel
theorem dX2_forward_67 : decode cX2_forward 67 = .ok (.ireturn, 1) := by decide +kernel
theorem dX2_forward_68 : decode cX2_forward 68 = .ok (.aload 4, 2) := by decide +kernel
theorem dX2_forward_70 : decode cX2_forward 70 = .ok (.aload_n 0, 1) := by decide +kernel
theorem dX2_forward_71 : decode cX2_forward 71 = .ok (.getfield 65, 3) := by decide +kernel
theorem dX2_forward_74 : decode cX2_forward 74 = .ok (.aload_n 0, 1) := by decide +kernel
theorem dX2_forward_75 : decode cX2_forward 75 = .ok (.getfield 14, 3) := by decide +kernel
theorem dX2_forward_78 : decode cX2_forward 78 = .ok (.aload_n 0, 1) := by decide +kernel
theorem dX2_forward_79 : decode cX2_forward 79 = .ok (.getfield 45, 3) := by decide +kernel
theorem dX2_forward_82 : decode cX2_forward 82 = .ok (.aload_n 3, 1) := by decide +kernel
theorem dX2_forward_83 : decode cX2_forward 83 = .ok (.invokevirtual 176, 3) := by decide +kernel
theorem dX2_forward_86 : decode cX2_forward 86 = .ok (.invokevirtual 97, 3) := by decide +kernel
theorem dX2_forward_89 : decode cX2_forward 89 = .ok (.istore 6, 2) := by decide +kernel
theorem dX2_forward_91 : decode cX2_forward 91 = .ok (.aload_n 0, 1) := by decide +kernel
theorem dX2_forward_92 : decode cX2_forward 92 = .ok (.dup, 1) := by decide +kernel
theorem dX2_forward_93 : decode cX2_forward 93 = .ok (.getfield 74, 3) := by decide +kernel
theorem dX2_forward_96 : decode cX2_forward 96 = .ok (.iload 6, 2) := by decide +kernel
theorem dX2_forward_98 : decode cX2_forward 98 = .ok (.iconst 1, 1) := by decide +kernel
theorem dX2_forward_99 : decode cX2_forward 99 = .ok (.iand, 1) := by decide +kernel
theorem dX2_forward_100 : decode cX2_forward 100 = .ok (.aload_n 0, 1) := by decide +kernel
theorem dX2_forward_101 : decode cX2_forward 101 = .ok (.getfield 49, 3) := by decide +kernel
theorem dX2_forward_104 : decode cX2_forward 104 = .ok (.if_icmp .ne 7, 3) := by decide +kernel
theorem dX2_forward_107 : decode cX2_forward 107 = .ok (.iconst 1, 1) := by decide +kernel
theorem dX2_forward_108 : decode cX2_forward 108 = .ok (.goto 4, 3) := by decide +kernel
theorem dX2_forward_111 : decode cX2_forward 111 = .ok (.iconst 0, 1) := by decide +kernel
theorem dX2_forward_112 : decode cX2_forward 112 = .ok (.iadd, 1) := by decide +kernel
theorem dX2_forward_113 : decode cX2_forward 113 = .ok (.putfield 74, 3) := by decide +kernel
theorem dX2_forward_116 : decode cX2_forward 116 = .ok (.aload_n 0, 1) := by decide +kernel
theorem dX2_forward_117 : decode cX2_forward 117 = .ok (.aload_n 0, 1) := by decide +kernel
theorem dX2_forward_118 : decode cX2_forward 118 = .ok (.getfield 71, 3) := by decide +kernel
theorem dX2_forward_121 : decode cX2_forward 121 = .ok (.iconst 1, 1) := by decide +kernel
theorem dX2_forward_122 : decode cX2_forward 122 = .ok (.iadd, 1) := by decide +kernel
theorem dX2_forward_123 : decode cX2_forward 123 = .ok (.iconst 4, 1) := by decide +kernel
theorem dX2_forward_124 : decode cX2_forward 124 = .ok (.invokestatic 152, 3) := by decide +kernel
theorem dX2_forward_127 : decode cX2_forward 127 = .ok (.putfield 71, 3) := by decide +kernel
theorem dX2_forward_130 : decode cX2_forward 130 = .ok (.aload_n 0, 1) := by decide +kernel
theorem dX2_forward_131 : decode cX2_forward 131 = .ok (.iload 6, 2) := by decide +kernel
theorem dX2_forward_133 : decode cX2_forward 133 = .ok (.invokevirtual 173, 3) := by decide +kernel
theorem dX2_forward_136 : decode cX2_forward 136 = .ok (.ireturn, 1) := by decide +kernel
theorem dX2_back_0 : decode cX2_back 0 = .ok (.aload_n 0, 1) := by decide +kernel
theorem dX2_back_1 : decode cX2_back 1 = .ok (.getfield 36, 3) := by decide +kernel
theorem dX2_back_4 : decode cX2_back 4 = .ok (.aload_n 0, 1) := by decide +kernel
theorem dX2_back_5 : decode cX2_back 5 = .ok (.getfield 71, 3) := by decide +kernel
theorem dX2_back_8 : decode cX2_back 8 = .ok (.aaload, 1) := by decide +kernel
theorem dX2_back_9 : decode cX2_back 9 = .ok (.getfield 88, 3) := by decide +kernel
theorem dX2_back_12 : decode cX2_back 12 = .ok (.ifCond .ne 20, 3) := by decide +kernel
theorem dX2_back_15 : decode cX2_back 15 = .ok (.aload_n 0, 1) := by decide +kernel
theorem dX2_back_16 : decode cX2_back 16 = .ok (.getfield 71, 3) := by decide +kernel
theorem dX2_back_19 : decode cX2_back 19 = .ok (.ifCond .le 13, 3) := by decide +kernel
theorem dX2_back_22 : decode cX2_back 22 = .ok (.aload_n 0, 1) := by decide +kernel
theorem dX2_back_23 : decode cX2_back 23 = .ok (.dup, 1) := by decide +kernel
theorem dX2_back_24 : decode cX2_back 24 = .ok (.getfield 71, 3) := by decide +kernel
theorem dX2_back_27 : decode cX2_back 27 = .ok (.iconst 1, 1) := by decide +kernel
theorem dX2_back_28 : decode cX2_back 28 = .ok (.isub, 1) := by decide +kernel
theorem dX2_back_29 : decode cX2_back 29 = .ok (.putfield 71, 3) := by decide +kernel
theorem dX2_back_32 : decode cX2_back 32 = .ok (.aload_n 0, 1) := by decide +kernel
theorem dX2_back_33 : decode cX2_back 33 = .ok (.getfield 36, 3) := by decide +kernel
theorem dX2_back_36 : decode cX2_back 36 = .ok (.aload_n 0, 1) := by decide +kernel
theorem dX2_back_37 : decode cX2_back 37 = .ok (.getfield 71, 3) := by decide +kernel
theorem dX2_back_40 : decode cX2_back 40 = .ok (.aaload, 1) := by decide +kernel
theorem dX2_back_41 : decode cX2_back 41 = .ok (.aload_n 0, 1) := by decide +kernel
theorem dX2_back_42 : decode cX2_back 42 = .ok (.getfield 36, 3) := by decide +kernel
theorem dX2_back_45 : decode cX2_back 45 = .ok (.aload_n 0, 1) := by decide +kernel
theorem dX2_back_46 : decode cX2_back 46 = .ok (.getfield 71, 3) := by decide +kernel
theorem dX2_back_49 : decode cX2_back 49 = .ok (.aaload, 1) := by decide +kernel
theorem dX2_back_50 : decode cX2_back 50 = .ok (.getfield 88, 3) := by decide +kernel
theorem dX2_back_53 : decode cX2_back 53 = .ok (.iconst 1, 1) := by decide +kernel
theorem dX2_back_54 : decode cX2_back 54 = .ok (.isub, 1) := by decide +kernel
theorem dX2_back_55 : decode cX2_back 55 = .ok (.invokevirtual 167, 3) := by decide +kernel
theorem dX2_back_58 : decode cX2_back 58 = .ok (.istore 4, 2) := by decide +kernel
theorem dX2_back_60 : decode cX2_back 60 = .ok (.aload_n 0, 1) := by decide +kernel
theorem dX2_back_61 : decode cX2_back 61 = .ok (.getfield 39, 3) := by decide +kernel
theorem dX2_back_64 : decode cX2_back 64 = .ok (.aload_n 0, 1) := by decide +kernel
theorem dX2_back_65 : decode cX2_back 65 = .ok (.getfield 71, 3) := by decide +kernel
theorem dX2_back_68 : decode cX2_back 68 = .ok (.aaload, 1) := by decide +kernel
theorem dX2_back_69 : decode cX2_back 69 = .ok (.aload_n 0, 1) := by decide +kernel
theorem dX2_back_70 : decode cX2_back 70 = .ok (.getfield 39, 3) := by decide +kernel
theorem dX2_back_73 : decode cX2_back 73 = .ok (.aload_n 0, 1) := by decide +kernel
theorem dX2_back_74 : decode cX2_back 74 = .ok (.getfield 71, 3) := by decide +kernel
theorem dX2_back_77 : decode cX2_back 77 = .ok (.aaload, 1) := by decide +kernel
theorem dX2_back_78 : decode cX2_back 78 = .ok (.getfield 88, 3) := by decide +kernel
theorem dX2_back_81 : decode cX2_back 81 = .ok (.iconst 1, 1) := by decide +kernel
theorem dX2_back_82 : decode cX2_back 82 = .ok (.isub, 1) := by decide +kernel
theorem dX2_back_83 : decode cX2_back 83 = .ok (.invokevirtual 167, 3) := by decide +kernel
theorem dX2_back_86 : decode cX2_back 86 = .ok (.pop, 1) := by decide +kernel
theorem dX2_back_87 : decode cX2_back 87 = .ok (.aload_n 0, 1) := by decide +kernel
theorem dX2_back_88 : decode cX2_back 88 = .ok (.getfield 32, 3) := by decide +kernel
theorem dX2_back_91 : decode cX2_back 91 = .ok (.iload_n 1, 1) := by decide +kernel
theorem dX2_back_92 : decode cX2_back 92 = .ok (.iconst 3, 1) := by decide +kernel
theorem dX2_back_93 : decode cX2_back 93 = .ok (.iand, 1) := by decide +kernel
theorem dX2_back_94 : decode cX2_back 94 = .ok (.aaload, 1) := by decide +kernel
theorem dX2_back_95 : decode cX2_back 95 = .ok (.iload_n 2, 1) := by decide +kernel
theorem dX2_back_96 : decode cX2_back 96 = .ok (.iload 4, 2) := by decide +kernel
theorem dX2_back_98 : decode cX2_back 98 = .ok (.invokevirtual 180, 3) := by decide +kernel
theorem dX2_back_101 : decode cX2_back 101 = .ok (.aload_n 0, 1) := by decide +kernel
theorem dX2_back_102 : decode cX2_back 102 = .ok (.iload_n 3, 1) := by decide +kernel
theorem dX2_back_103 : decode cX2_back 103 = .ok (.putfield 74, 3) := by decide +kernel
theorem dX2_back_106 : decode cX2_back 106 = .ok (.return_, 1) := by decide +kernel
theorem dX3_init_0 : decode cX3_init 0 = .ok (.aload_n 0, 1) := by decide +kernel
theorem dX3_init_1 : decode cX3_init 1 = .ok (.iload_n 1, 1) := by decide +kernel
theorem dX3_init_2 : decode cX3_init 2 = .ok (.invokespecial 3, 3) := by decide +kernel
theorem dX3_init_5 : decode cX3_init 5 = .ok (.return_, 1) := by decide +kernel
theorem dX3_size_0 : decode cX3_size 0 = .ok (.aload_n 1, 1) := by decide +kernel
theorem dX3_size_1 : decode cX3_size 1 = .ok (.bipush 11, 2) := by decide +kernel
theorem dX3_size_3 : decode cX3_size 3 = .ok (.invokevirtual 9, 3) := by decide +kernel
theorem dX3_size_6 : decode cX3_size 6 = .ok (.iload_n 2, 1) := by decide +kernel
theorem dX3_size_7 : decode cX3_size 7 = .ok (.iconst 4, 1) := by decide +kernel
theorem dX3_size_8 : decode cX3_size 8 = .ok (.idiv, 1) := by decide +kernel
theorem dX3_size_9 : decode cX3_size 9 = .ok (.ireturn, 1) := by decide +kernel
theorem dX3_allows_0 : decode cX3_allows 0 = .ok (.aload_n 1, 1) := by decide +kernel
theorem dX3_allows_1 : decode cX3_allows 1 = .ok (.bipush 21, 2) := by decide +kernel
theorem dX3_allows_3 : decode cX3_allows 3 = .ok (.invokevirtual 9, 3) := by decide +kernel
theorem dX3_allows_6 : decode cX3_allows 6 = .ok (.aload_n 2, 1) := by decide +kernel
theorem dX3_allows_7 : decode cX3_allows 7 = .ok (.aload 4, 2) := by decide +kernel
theorem dX3_allows_9 : decode cX3_allows 9 = .ok (.iconst 0, 1) := by decide +kernel
theorem dX3_allows_10 : decode cX3_allows 10 = .ok (.invokevirtual 14, 3) := by decide +kernel
theorem dX3_allows_13 : decode cX3_allows 13 = .ok (.invokevirtual 20, 3) := by decide +kernel
theorem dX3_allows_16 : decode cX3_allows 16 = .ok (.istore 6, 2) := by decide +kernel
theorem dX3_allows_18 : decode cX3_allows 18 = .ok (.aload_n 2, 1) := by decide +kernel
theorem dX3_allows_19 : decode cX3_allows 19 = .ok (.iload 5, 2) := by decide +kernel
theorem dX3_allows_21 : decode cX3_allows 21 = .ok (.invokevirtual 20, 3) := by decide +kernel
theorem dX3_allows_24 : decode cX3_allows 24 = .ok (.istore 7, 2) := by decide +kernel
theorem dX3_allows_26 : decode cX3_allows 26 = .ok (.iload 7, 2) := by decide +kernel
theorem dX3_allows_28 : decode cX3_allows 28 = .ok (.iconst 5, 1) := by decide +kernel
theorem dX3_allows_29 : decode cX3_allows 29 = .ok (.if_icmp .eq 24, 3) := by decide +kernel
theorem dX3_allows_32 : decode cX3_allows 32 = .ok (.aload 4, 2) := by decide +kernel
theorem dX3_allows_34 : decode cX3_allows 34 = .ok (.getfield 25, 3) := by decide +kernel
theorem dX3_allows_37 : decode cX3_allows 37 = .ok (.ifCond .eq 16, 3) := by decide +kernel
theorem dX3_allows_40 : decode cX3_allows 40 = .ok (.iload 6, 2) := by decide +kernel
theorem dX3_allows_42 : decode cX3_allows 42 = .ok (.iconst 5, 1) := by decide +kernel
theorem dX3_allows_43 : decode cX3_allows 43 = .ok (.if_icmp .eq 10, 3) := by decide +kernel
theorem dX3_allows_46 : decode cX3_allows 46 = .ok (.iload 7, 2) := by decide +kernel
theorem dX3_allows_48 : decode cX3_allows 48 = .ok (.iload 6, 2) := by decide +kernel
theorem dX3_allows_50 : decode cX3_allows 50 = .ok (.if_icmp .ne 7, 3) := by decide +kernel
theorem dX3_allows_53 : decode cX3_allows 53 = .ok (.iconst 1, 1) := by decide +kernel
theorem dX3_allows_54 : decode cX3_allows 54 = .ok (.goto 4, 3) := by decide +kernel
theorem dX3_allows_57 : decode cX3_allows 57 = .ok (.iconst 0, 1) := by decide +kernel
theorem dX3_allows_58 : decode cX3_allows 58 = .ok (.istore 8, 2) := by decide +kernel
theorem dX3_allows_60 : decode cX3_allows 60 = .ok (.iload 8, 2) := by decide +kernel
theorem dX3_allows_62 : decode cX3_allows 62 = .ok (.ifCond .ne 14, 3) := by decide +kernel
theorem dX3_allows_65 : decode cX3_allows 65 = .ok (.aload_n 2, 1) := by decide +kernel
theorem dX3_allows_66 : decode cX3_allows 66 = .ok (.aload_n 3, 1) := by decide +kernel
theorem dX3_allows_67 : decode cX3_allows 67 = .ok (.iload 6, 2) := by decide +kernel
theorem dX3_allows_69 : decode cX3_allows 69 = .ok (.invokevirtual 29, 3) := by decide +kernel
theorem dX3_allows_72 : decode cX3_allows 72 = .ok (.iconst (-1), 1) := by decide +kernel
theorem dX3_allows_73 : decode cX3_allows 73 = .ok (.if_icmp .ne 7, 3) := by decide +kernel
theorem dX3_allows_76 : decode cX3_allows 76 = .ok (.iconst 0, 1) := by decide +kernel
theorem dX3_allows_77 : decode cX3_allows 77 = .ok (.goto 4, 3) := by decide +kernel
theorem dX3_allows_80 : decode cX3_allows 80 = .ok (.iconst 1, 1) := by decide +kernel
theorem dX3_allows_81 : decode cX3_allows 81 = .ok (.ireturn, 1) := by decide +kernel
theorem dX3_wins_0 : decode cX3_wins 0 = .ok (.aload_n 1, 1) := by decide +kernel
theorem dX3_wins_1 : decode cX3_wins 1 = .ok (.bipush 31, 2) := by decide +kernel
theorem dX3_wins_3 : decode cX3_wins 3 = .ok (.invokevirtual 9, 3) := by decide +kernel
theorem dX3_wins_6 : decode cX3_wins 6 = .ok (.aload_n 2, 1) := by decide +kernel
theorem dX3_wins_7 : decode cX3_wins 7 = .ok (.aload_n 3, 1) := by decide +kernel
theorem dX3_wins_8 : decode cX3_wins 8 = .ok (.iconst 5, 1) := by decide +kernel
theorem dX3_wins_9 : decode cX3_wins 9 = .ok (.invokevirtual 29, 3) := by decide +kernel
theorem dX3_wins_12 : decode cX3_wins 12 = .ok (.istore 4, 2) := by decide +kernel
theorem dX3_wins_14 : decode cX3_wins 14 = .ok (.iload 4, 2) := by decide +kernel
theorem dX3_wins_16 : decode cX3_wins 16 = .ok (.iconst (-1), 1) := by decide +kernel
theorem dX3_wins_17 : decode cX3_wins 17 = .ok (.if_icmp .ne 12, 3) := by decide +kernel
theorem dX3_wins_20 : decode cX3_wins 20 = .ok (.aload_n 2, 1) := by decide +kernel
theorem dX3_wins_21 : decode cX3_wins 21 = .ok (.aload_n 3, 1) := by decide +kernel
theorem dX3_wins_22 : decode cX3_wins 22 = .ok (.iconst 4, 1) := by decide +kernel
theorem dX3_wins_23 : decode cX3_wins 23 = .ok (.iconst 4, 1) := by decide +kernel
theorem dX3_wins_24 : decode cX3_wins 24 = .ok (.invokevirtual 33, 3) := by decide +kernel
theorem dX3_wins_27 : decode cX3_wins 27 = .ok (.istore 4, 2) := by decide +kernel
theorem dX3_wins_29 : decode cX3_wins 29 = .ok (.iload 4, 2) := by decide +kernel
theorem dX3_wins_31 : decode cX3_wins 31 = .ok (.iconst (-1), 1) := by decide +kernel
theorem dX3_wins_32 : decode cX3_wins 32 = .ok (.if_icmp .ne 25, 3) := by decide +kernel
theorem dX3_wins_35 : decode cX3_wins 35 = .ok (.aload_n 2, 1) := by decide +kernel
theorem dX3_wins_36 : decode cX3_wins 36 = .ok (.aload_n 3, 1) := by decide +kernel
theorem dX3_wins_37 : decode cX3_wins 37 = .ok (.iconst 0, 1) := by decide +kernel
theorem dX3_wins_38 : decode cX3_wins 38 = .ok (.invokevirtual 14, 3) := by decide +kernel
theorem dX3_wins_41 : decode cX3_wins 41 = .ok (.invokevirtual 20, 3) := by decide +kernel
theorem dX3_wins_44 : decode cX3_wins 44 = .ok (.istore 5, 2) := by decide +kernel
theorem dX3_wins_46 : decode cX3_wins 46 = .ok (.aload_n 2, 1) := by decide +kernel
theorem dX3_wins_47 : decode cX3_wins 47 = .ok (.aload_n 3, 1) := by decide +kernel
theorem dX3_wins_48 : decode cX3_wins 48 = .ok (.iload 5, 2) := by decide +kernel
theorem dX3_wins_50 : decode cX3_wins 50 = .ok (.iload 5, 2) := by decide +kernel
theorem dX3_wins_52 : decode cX3_wins 52 = .ok (.invokevirtual 33, 3) := by decide +kernel
theorem dX3_wins_55 : decode cX3_wins 55 = .ok (.istore 4, 2) := by decide +kernel
theorem dX3_wins_57 : decode cX3_wins 57 = .ok (.iload 4, 2) := by decide +kernel
theorem dX3_wins_59 : decode cX3_wins 59 = .ok (.ireturn, 1) := by decide +kernel
theorem dX3_score_0 : decode cX3_score 0 = .ok (.aload_n 1, 1) := by decide +kernel
theorem dX3_score_1 : decode cX3_score 1 = .ok (.bipush 41, 2) := by decide +kernel
theorem dX3_score_3 : decode cX3_score 3 = .ok (.invokevirtual 9, 3) := by decide +kernel
theorem dX3_score_6 : decode cX3_score 6 = .ok (.iconst 1, 1) := by decide +kernel
theorem dX3_score_7 : decode cX3_score 7 = .ok (.ireturn, 1) := by decide +kernel
theorem dX3_settle_0 : decode cX3_settle 0 = .ok (.aload_n 1, 1) := by decide +kernel
theorem dX3_settle_1 : decode cX3_settle 1 = .ok (.bipush 51, 2) := by decide +kernel
theorem dX3_settle_3 : decode cX3_settle 3 = .ok (.invokevirtual 9, 3) := by decide +kernel
theorem dX3_settle_6 : decode cX3_settle 6 = .ok (.iload 4, 2) := by decide +kernel
theorem dX3_settle_8 : decode cX3_settle 8 = .ok (.aload_n 2, 1) := by decide +kernel
theorem dX3_settle_9 : decode cX3_settle 9 = .ok (.getfield 37, 3) := by decide +kernel
theorem dX3_settle_12 : decode cX3_settle 12 = .ok (.ishl, 1) := by decide +kernel
theorem dX3_settle_13 : decode cX3_settle 13 = .ok (.ireturn, 1) := by decide +kernel
theorem dX3_player_0 : decode cX3_player 0 = .ok (.aload_n 0, 1) := by decide +kernel
theorem dX3_player_1 : decode cX3_player 1 = .ok (.areturn, 1) := by decide +kernel
theorem dX4_init_0 : decode cX4_init 0 = .ok (.aload_n 0, 1) := by decide +kernel
theorem dX4_init_1 : decode cX4_init 1 = .ok (.invokespecial 1, 3) := by decide +kernel
theorem dX4_init_4 : decode cX4_init 4 = .ok (.aload_n 0, 1) := by decide +kernel
theorem dX4_init_5 : decode cX4_init 5 = .ok (.iload_n 1, 1) := by decide +kernel
theorem dX4_init_6 : decode cX4_init 6 = .ok (.putfield 7, 3) := by decide +kernel
theorem dX4_init_9 : decode cX4_init 9 = .ok (.return_, 1) := by decide +kernel
theorem dX5_init_0 : decode cX5_init 0 = .ok (.aload_n 0, 1) := by decide +kernel
theorem dX5_init_1 : decode cX5_init 1 = .ok (.iload_n 1, 1) := by decide +kernel
theorem dX5_init_2 : decode cX5_init 2 = .ok (.invokespecial 3, 3) := by decide +kernel
theorem dX5_init_5 : decode cX5_init 5 = .ok (.return_, 1) := by decide +kernel
theorem dX5_allows_0 : decode cX5_allows 0 = .ok (.aload_n 1, 1) := by decide +kernel
theorem dX5_allows_1 : decode cX5_allows 1 = .ok (.bipush 22, 2) := by decide +kernel
theorem dX5_allows_3 : decode cX5_allows 3 = .ok (.invokevirtual 9, 3) := by decide +kernel
theorem dX5_allows_6 : decode cX5_allows 6 = .ok (.aload_n 0, 1) := by decide +kernel
theorem dX5_allows_7 : decode cX5_allows 7 = .ok (.aload_n 1, 1) := by decide +kernel
theorem dX5_allows_8 : decode cX5_allows 8 = .ok (.aload_n 2, 1) := by decide +kernel
theorem dX5_allows_9 : decode cX5_allows 9 = .ok (.aload_n 3, 1) := by decide +kernel
theorem dX5_allows_10 : decode cX5_allows 10 = .ok (.aload 4, 2) := by decide +kernel
theorem dX5_allows_12 : decode cX5_allows 12 = .ok (.iload 5, 2) := by decide +kernel
theorem dX5_allows_14 : decode cX5_allows 14 = .ok (.invokespecial 14, 3) := by decide +kernel
theorem dX5_allows_17 : decode cX5_allows 17 = .ok (.istore 6, 2) := by decide +kernel
theorem dX5_allows_19 : decode cX5_allows 19 = .ok (.aload_n 2, 1) := by decide +kernel
theorem dX5_allows_20 : decode cX5_allows 20 = .ok (.aload 4, 2) := by decide +kernel
theorem dX5_allows_22 : decode cX5_allows 22 = .ok (.iconst 0, 1) := by decide +kernel
theorem dX5_allows_23 : decode cX5_allows 23 = .ok (.invokevirtual 18, 3) := by decide +kernel
theorem dX5_allows_26 : decode cX5_allows 26 = .ok (.invokevirtual 24, 3) := by decide +kernel
theorem dX5_allows_29 : decode cX5_allows 29 = .ok (.istore 7, 2) := by decide +kernel
theorem dX5_allows_31 : decode cX5_allows 31 = .ok (.aload_n 2, 1) := by decide +kernel
theorem dX5_allows_32 : decode cX5_allows 32 = .ok (.iload 5, 2) := by decide +kernel
theorem dX5_allows_34 : decode cX5_allows 34 = .ok (.invokevirtual 24, 3) := by decide +kernel
theorem dX5_allows_37 : decode cX5_allows 37 = .ok (.istore 8, 2) := by decide +kernel
theorem dX5_allows_39 : decode cX5_allows 39 = .ok (.iload 8, 2) := by decide +kernel
theorem dX5_allows_41 : decode cX5_allows 41 = .ok (.iconst 5, 1) := by decide +kernel
theorem dX5_allows_42 : decode cX5_allows 42 = .ok (.if_icmp .eq 23, 3) := by decide +kernel
theorem dX5_allows_45 : decode cX5_allows 45 = .ok (.aload 4, 2) := by decide +kernel
theorem dX5_allows_47 : decode cX5_allows 47 = .ok (.getfield 29, 3) := by decide +kernel
theorem dX5_allows_50 : decode cX5_allows 50 = .ok (.ifCond .eq 15, 3) := by decide +kernel
theorem dX5_allows_53 : decode cX5_allows 53 = .ok (.iload 7, 2) := by decide +kernel
theorem dX5_allows_55 : decode cX5_allows 55 = .ok (.iconst 5, 1) := by decide +kernel
theorem dX5_allows_56 : decode cX5_allows 56 = .ok (.if_icmp .eq 9, 3) := by decide +kernel
theorem dX5_allows_59 : decode cX5_allows 59 = .ok (.iload 8, 2) := by decide +kernel
theorem dX5_allows_61 : decode cX5_allows 61 = .ok (.iconst 4, 1) := by decide +kernel
theorem dX5_allows_62 : decode cX5_allows 62 = .ok (.if_icmp .ne 7, 3) := by decide +kernel
theorem dX5_allows_65 : decode cX5_allows 65 = .ok (.iconst 1, 1) := by decide +kernel
theorem dX5_allows_66 : decode cX5_allows 66 = .ok (.goto 4, 3) := by decide +kernel
theorem dX5_allows_69 : decode cX5_allows 69 = .ok (.iconst 0, 1) := by decide +kernel
theorem dX5_allows_70 : decode cX5_allows 70 = .ok (.istore 9, 2) := by decide +kernel
theorem dX5_allows_72 : decode cX5_allows 72 = .ok (.iload 6, 2) := by decide +kernel
theorem dX5_allows_74 : decode cX5_allows 74 = .ok (.ifCond .ne 19, 3) := by decide +kernel
theorem dX5_allows_77 : decode cX5_allows 77 = .ok (.iload 9, 2) := by decide +kernel
theorem dX5_allows_79 : decode cX5_allows 79 = .ok (.ifCond .ne 14, 3) := by decide +kernel
theorem dX5_allows_82 : decode cX5_allows 82 = .ok (.aload_n 2, 1) := by decide +kernel
theorem dX5_allows_83 : decode cX5_allows 83 = .ok (.aload_n 3, 1) := by decide +kernel
theorem dX5_allows_84 : decode cX5_allows 84 = .ok (.iload 7, 2) := by decide +kernel
theorem dX5_allows_86 : decode cX5_allows 86 = .ok (.invokevirtual 33, 3) := by decide +kernel
theorem dX5_allows_89 : decode cX5_allows 89 = .ok (.iconst (-1), 1) := by decide +kernel
theorem dX5_allows_90 : decode cX5_allows 90 = .ok (.if_icmp .eq 6, 3) := by decide +kernel
theorem dX5_allows_93 : decode cX5_allows 93 = .ok (.iload 6, 2) := by decide +kernel
theorem dX5_allows_95 : decode cX5_allows 95 = .ok (.ireturn, 1) := by decide +kernel
theorem dX5_allows_96 : decode cX5_allows 96 = .ok (.aload_n 2, 1) := by decide +kernel
theorem dX5_allows_97 : decode cX5_allows 97 = .ok (.aload_n 3, 1) := by decide +kernel
theorem dX5_allows_98 : decode cX5_allows 98 = .ok (.iconst 4, 1) := by decide +kernel
theorem dX5_allows_99 : decode cX5_allows 99 = .ok (.invokevirtual 33, 3) := by decide +kernel
theorem dX5_allows_102 : decode cX5_allows 102 = .ok (.iconst (-1), 1) := by decide +kernel
theorem dX5_allows_103 : decode cX5_allows 103 = .ok (.if_icmp .ne 7, 3) := by decide +kernel
theorem dX5_allows_106 : decode cX5_allows 106 = .ok (.iconst 0, 1) := by decide +kernel
theorem dX5_allows_107 : decode cX5_allows 107 = .ok (.goto 4, 3) := by decide +kernel
theorem dX5_allows_110 : decode cX5_allows 110 = .ok (.iconst 2, 1) := by decide +kernel
theorem dX5_allows_111 : decode cX5_allows 111 = .ok (.ireturn, 1) := by decide +kernel
theorem dX5_score_0 : decode cX5_score 0 = .ok (.aload_n 1, 1) := by decide +kernel
theorem dX5_score_1 : decode cX5_score 1 = .ok (.bipush 42, 2) := by decide +kernel
theorem dX5_score_3 : decode cX5_score 3 = .ok (.invokevirtual 9, 3) := by decide +kernel
theorem dX5_score_6 : decode cX5_score 6 = .ok (.aload_n 0, 1) := by decide +kernel
theorem dX5_score_7 : decode cX5_score 7 = .ok (.aload_n 1, 1) := by decide +kernel
theorem dX5_score_8 : decode cX5_score 8 = .ok (.aload_n 2, 1) := by decide +kernel
theorem dX5_score_9 : decode cX5_score 9 = .ok (.aload_n 3, 1) := by decide +kernel
theorem dX5_score_10 : decode cX5_score 10 = .ok (.iload 4, 2) := by decide +kernel
theorem dX5_score_12 : decode cX5_score 12 = .ok (.invokespecial 37, 3) := by decide +kernel
theorem dX5_score_15 : decode cX5_score 15 = .ok (.istore 5, 2) := by decide +kernel
theorem dX5_score_17 : decode cX5_score 17 = .ok (.iconst 0, 1) := by decide +kernel
theorem dX5_score_18 : decode cX5_score 18 = .ok (.istore 6, 2) := by decide +kernel
theorem dX5_score_20 : decode cX5_score 20 = .ok (.iload 6, 2) := by decide +kernel
theorem dX5_score_22 : decode cX5_score 22 = .ok (.aload_n 3, 1) := by decide +kernel
theorem dX5_score_23 : decode cX5_score 23 = .ok (.getfield 29, 3) := by decide +kernel
theorem dX5_score_26 : decode cX5_score 26 = .ok (.if_icmp .ge 33, 3) := by decide +kernel
theorem dX5_score_29 : decode cX5_score 29 = .ok (.iload 5, 2) := by decide +kernel
theorem dX5_score_31 : decode cX5_score 31 = .ok (.aload_n 2, 1) := by decide +kernel
theorem dX5_score_32 : decode cX5_score 32 = .ok (.aload_n 3, 1) := by decide +kernel
theorem dX5_score_33 : decode cX5_score 33 = .ok (.iload 6, 2) := by decide +kernel
theorem dX5_score_35 : decode cX5_score 35 = .ok (.invokevirtual 18, 3) := by decide +kernel
theorem dX5_score_38 : decode cX5_score 38 = .ok (.invokevirtual 24, 3) := by decide +kernel
theorem dX5_score_41 : decode cX5_score 41 = .ok (.iconst 4, 1) := by decide +kernel
theorem dX5_score_42 : decode cX5_score 42 = .ok (.if_icmp .ne 7, 3) := by decide +kernel
theorem dX5_score_45 : decode cX5_score 45 = .ok (.iconst 1, 1) := by decide +kernel
theorem dX5_score_46 : decode cX5_score 46 = .ok (.goto 4, 3) := by decide +kernel
theorem dX5_score_49 : decode cX5_score 49 = .ok (.iconst 0, 1) := by decide +kernel
theorem dX5_score_50 : decode cX5_score 50 = .ok (.iadd, 1) := by decide +kernel
theorem dX5_score_51 : decode cX5_score 51 = .ok (.istore 5, 2) := by decide +kernel
theorem dX5_score_53 : decode cX5_score 53 = .ok (.iinc 6 1, 3) := by decide +kernel
theorem dX5_score_56 : decode cX5_score 56 = .ok (.goto (-36), 3) := by decide +kernel
theorem dX5_score_59 : decode cX5_score 59 = .ok (.iload 5, 2) := by decide +kernel
theorem dX5_score_61 : decode cX5_score 61 = .ok (.ireturn, 1) := by decide +kernel
theorem dX6_init_0 : decode cX6_init 0 = .ok (.aload_n 0, 1) := by decide +kernel
theorem dX6_init_1 : decode cX6_init 1 = .ok (.invokespecial 3, 3) := by decide +kernel
theorem dX6_init_4 : decode cX6_init 4 = .ok (.aload_n 0, 1) := by decide +kernel
theorem dX6_init_5 : decode cX6_init 5 = .ok (.bipush 60, 2) := by decide +kernel
theorem dX6_init_7 : decode cX6_init 7 = .ok (.newarray .int, 2) := by decide +kernel
theorem dX6_init_9 : decode cX6_init 9 = .ok (.putfield 9, 3) := by decide +kernel
theorem dX6_init_12 : decode cX6_init 12 = .ok (.aload_n 0, 1) := by decide +kernel
theorem dX6_init_13 : decode cX6_init 13 = .ok (.sipush 300, 3) := by decide +kernel
theorem dX6_init_16 : decode cX6_init 16 = .ok (.newarray .int, 2) := by decide +kernel
theorem dX6_init_18 : decode cX6_init 18 = .ok (.putfield 15, 3) := by decide +kernel
theorem dX6_init_21 : decode cX6_init 21 = .ok (.aload_n 0, 1) := by decide +kernel
theorem dX6_init_22 : decode cX6_init 22 = .ok (.iload_n 1, 1) := by decide +kernel
theorem dX6_init_23 : decode cX6_init 23 = .ok (.putfield 18, 3) := by decide +kernel
theorem dX6_init_26 : decode cX6_init 26 = .ok (.return_, 1) := by decide +kernel
theorem dX6_body_0 : decode cX6_body 0 = .ok (.aload_n 0, 1) := by decide +kernel
theorem dX6_body_1 : decode cX6_body 1 = .ok (.getfield 22, 3) := by decide +kernel
theorem dX6_body_4 : decode cX6_body 4 = .ok (.bipush 60, 2) := by decide +kernel
theorem dX6_body_6 : decode cX6_body 6 = .ok (.irem, 1) := by decide +kernel
theorem dX6_body_7 : decode cX6_body 7 = .ok (.istore_n 2, 1) := by decide +kernel
theorem dX6_body_8 : decode cX6_body 8 = .ok (.aload_n 0, 1) := by decide +kernel
theorem dX6_body_9 : decode cX6_body 9 = .ok (.getfield 18, 3) := by decide +kernel
theorem dX6_body_12 : decode cX6_body 12 = .ok (.ifCond .ne 24, 3) := by decide +kernel
theorem dX6_body_15 : decode cX6_body 15 = .ok (.iload_n 2, 1) := by decide +kernel
theorem dX6_body_16 : decode cX6_body 16 = .ok (.ifCond .lt 20, 3) := by decide +kernel
theorem dX6_body_19 : decode cX6_body 19 = .ok (.aload_n 0, 1) := by decide +kernel
theorem dX6_body_20 : decode cX6_body 20 = .ok (.getfield 9, 3) := by decide +kernel
theorem dX6_body_23 : decode cX6_body 23 = .ok (.iload_n 2, 1) := by decide +kernel
theorem dX6_body_24 : decode cX6_body 24 = .ok (.iload_n 1, 1) := by decide +kernel
theorem dX6_body_25 : decode cX6_body 25 = .ok (.iastore, 1) := by decide +kernel
theorem dX6_body_26 : decode cX6_body 26 = .ok (.aload_n 0, 1) := by decide +kernel
theorem dX6_body_27 : decode cX6_body 27 = .ok (.dup, 1) := by decide +kernel
theorem dX6_body_28 : decode cX6_body 28 = .ok (.getfield 22, 3) := by decide +kernel
theorem dX6_body_31 : decode cX6_body 31 = .ok (.iconst 1, 1) := by decide +kernel
theorem dX6_body_32 : decode cX6_body 32 = .ok (.iadd, 1) := by decide +kernel
theorem dX6_body_33 : decode cX6_body 33 = .ok (.putfield 22, 3) := by decide +kernel
theorem dX6_body_36 : decode cX6_body 36 = .ok (.return_, 1) := by decide +kernel
theorem dX6_find_0 : decode cX6_find 0 = .ok (.aload_n 0, 1) := by decide +kernel
theorem dX6_find_1 : decode cX6_find 1 = .ok (.getfield 26, 3) := by decide +kernel
theorem dX6_find_4 : decode cX6_find 4 = .ok (.bipush 60, 2) := by decide +kernel
theorem dX6_find_6 : decode cX6_find 6 = .ok (.irem, 1) := by decide +kernel
theorem dX6_find_7 : decode cX6_find 7 = .ok (.iconst 5, 1) := by decide +kernel
theorem dX6_find_8 : decode cX6_find 8 = .ok (.imul, 1) := by decide +kernel
theorem dX6_find_9 : decode cX6_find 9 = .ok (.istore 5, 2) := by decide +kernel
theorem dX6_find_11 : decode cX6_find 11 = .ok (.aload_n 0, 1) := by decide +kernel
theorem dX6_find_12 : decode cX6_find 12 = .ok (.getfield 18, 3) := by decide +kernel
theorem dX6_find_15 : decode cX6_find 15 = .ok (.ifCond .ne 8, 3) := by decide +kernel
theorem dX6_find_18 : decode cX6_find 18 = .ok (.iload 5, 2) := by decide +kernel
theorem dX6_find_20 : decode cX6_find 20 = .ok (.ifCond .ge 4, 3) := by decide +kernel
theorem dX6_find_23 : decode cX6_find 23 = .ok (.return_, 1) := by decide +kernel
theorem dX6_find_24 : decode cX6_find 24 = .ok (.aload_n 0, 1) := by decide +kernel
theorem dX6_find_25 : decode cX6_find 25 = .ok (.getfield 15, 3) := by decide +kernel
theorem dX6_find_28 : decode cX6_find 28 = .ok (.iload 5, 2) := by decide +kernel
theorem dX6_find_30 : decode cX6_find 30 = .ok (.iload_n 1, 1) := by decide +kernel
theorem dX6_find_31 : decode cX6_find 31 = .ok (.iastore, 1) := by decide +kernel
theorem dX6_find_32 : decode cX6_find 32 = .ok (.aload_n 0, 1) := by decide +kernel
theorem dX6_find_33 : decode cX6_find 33 = .ok (.getfield 15, 3) := by decide +kernel
theorem dX6_find_36 : decode cX6_find 36 = .ok (.iload 5, 2) := by decide +kernel
theorem dX6_find_38 : decode cX6_find 38 = .ok (.iconst 1, 1) := by decide +kernel
theorem dX6_find_39 : decode cX6_find 39 = .ok (.iadd, 1) := by decide +kernel
theorem dX6_find_40 : decode cX6_find 40 = .ok (.iload_n 2, 1) := by decide +kernel
theorem dX6_find_41 : decode cX6_find 41 = .ok (.iastore, 1) := by decide +kernel
theorem dX6_find_42 : decode cX6_find 42 = .ok (.aload_n 0, 1) := by decide +kernel
theorem dX6_find_43 : decode cX6_find 43 = .ok (.getfield 15, 3) := by decide +kernel
theorem dX6_find_46 : decode cX6_find 46 = .ok (.iload 5, 2) := by decide +kernel
theorem dX6_find_48 : decode cX6_find 48 = .ok (.iconst 2, 1) := by decide +kernel
theorem dX6_find_49 : decode cX6_find 49 = .ok (.iadd, 1) := by decide +kernel
theorem dX6_find_50 : decode cX6_find 50 = .ok (.iload_n 3, 1) := by decide +kernel
theorem dX6_find_51 : decode cX6_find 51 = .ok (.iastore, 1) := by decide +kernel
theorem dX6_find_52 : decode cX6_find 52 = .ok (.aload_n 0, 1) := by decide +kernel
theorem dX6_find_53 : decode cX6_find 53 = .ok (.getfield 15, 3) := by decide +kernel
theorem dX6_find_56 : decode cX6_find 56 = .ok (.iload 5, 2) := by decide +kernel
theorem dX6_find_58 : decode cX6_find 58 = .ok (.iconst 3, 1) := by decide +kernel
theorem dX6_find_59 : decode cX6_find 59 = .ok (.iadd, 1) := by decide +kernel
theorem dX6_find_60 : decode cX6_find 60 = .ok (.iload 4, 2) := by decide +kernel
theorem dX6_find_62 : decode cX6_find 62 = .ok (.iastore, 1) := by decide +kernel
theorem dX6_find_63 : decode cX6_find 63 = .ok (.aload_n 0, 1) := by decide +kernel
theorem dX6_find_64 : decode cX6_find 64 = .ok (.getfield 15, 3) := by decide +kernel
theorem dX6_find_67 : decode cX6_find 67 = .ok (.iload 5, 2) := by decide +kernel
theorem dX6_find_69 : decode cX6_find 69 = .ok (.iconst 4, 1) := by decide +kernel
theorem dX6_find_70 : decode cX6_find 70 = .ok (.iadd, 1) := by decide +kernel
theorem dX6_find_71 : decode cX6_find 71 = .ok (.aload_n 0, 1) := by decide +kernel
theorem dX6_find_72 : decode cX6_find 72 = .ok (.getfield 29, 3) := by decide +kernel
theorem dX6_find_75 : decode cX6_find 75 = .ok (.iastore, 1) := by decide +kernel
theorem dX6_find_76 : decode cX6_find 76 = .ok (.aload_n 0, 1) := by decide +kernel
theorem dX6_find_77 : decode cX6_find 77 = .ok (.dup, 1) := by decide +kernel
theorem dX6_find_78 : decode cX6_find 78 = .ok (.getfield 26, 3) := by decide +kernel
theorem dX6_find_81 : decode cX6_find 81 = .ok (.iconst 1, 1) := by decide +kernel
theorem dX6_find_82 : decode cX6_find 82 = .ok (.iadd, 1) := by decide +kernel
theorem dX6_find_83 : decode cX6_find 83 = .ok (.putfield 26, 3) := by decide +kernel
theorem dX6_find_86 : decode cX6_find 86 = .ok (.return_, 1) := by decide +kernel
theorem dX6_bodyAt_0 : decode cX6_bodyAt 0 = .ok (.iload_n 1, 1) := by decide +kernel
theorem dX6_bodyAt_1 : decode cX6_bodyAt 1 = .ok (.ifCond .lt 16, 3) := by decide +kernel
theorem dX6_bodyAt_4 : decode cX6_bodyAt 4 = .ok (.iload_n 1, 1) := by decide +kernel
theorem dX6_bodyAt_5 : decode cX6_bodyAt 5 = .ok (.aload_n 0, 1) := by decide +kernel
theorem dX6_bodyAt_6 : decode cX6_bodyAt 6 = .ok (.getfield 22, 3) := by decide +kernel
theorem dX6_bodyAt_9 : decode cX6_bodyAt 9 = .ok (.bipush 60, 2) := by decide +kernel
theorem dX6_bodyAt_11 : decode cX6_bodyAt 11 = .ok (.invokestatic 32, 3) := by decide +kernel
theorem dX6_bodyAt_14 : decode cX6_bodyAt 14 = .ok (.if_icmp .lt 5, 3) := by decide +kernel
theorem dX6_bodyAt_17 : decode cX6_bodyAt 17 = .ok (.iconst (-1), 1) := by decide +kernel
theorem dX6_bodyAt_18 : decode cX6_bodyAt 18 = .ok (.ireturn, 1) := by decide +kernel
theorem dX6_bodyAt_19 : decode cX6_bodyAt 19 = .ok (.aload_n 0, 1) := by decide +kernel
theorem dX6_bodyAt_20 : decode cX6_bodyAt 20 = .ok (.getfield 9, 3) := by decide +kernel
theorem dX6_bodyAt_23 : decode cX6_bodyAt 23 = .ok (.iconst 0, 1) := by decide +kernel
theorem dX6_bodyAt_24 : decode cX6_bodyAt 24 = .ok (.aload_n 0, 1) := by decide +kernel
theorem dX6_bodyAt_25 : decode cX6_bodyAt 25 = .ok (.getfield 22, 3) := by decide +kernel
theorem dX6_bodyAt_28 : decode cX6_bodyAt 28 = .ok (.bipush 60, 2) := by decide +kernel
theorem dX6_bodyAt_30 : decode cX6_bodyAt 30 = .ok (.isub, 1) := by decide +kernel
theorem dX6_bodyAt_31 : decode cX6_bodyAt 31 = .ok (.invokestatic 38, 3) := by decide +kernel
theorem dX6_bodyAt_34 : decode cX6_bodyAt 34 = .ok (.iload_n 1, 1) := by decide +kernel
theorem dX6_bodyAt_35 : decode cX6_bodyAt 35 = .ok (.iadd, 1) := by decide +kernel
theorem dX6_bodyAt_36 : decode cX6_bodyAt 36 = .ok (.bipush 60, 2) := by decide +kernel
theorem dX6_bodyAt_38 : decode cX6_bodyAt 38 = .ok (.irem, 1) := by decide +kernel
theorem dX6_bodyAt_39 : decode cX6_bodyAt 39 = .ok (.iaload, 1) := by decide +kernel
theorem dX6_bodyAt_40 : decode cX6_bodyAt 40 = .ok (.ireturn, 1) := by decide +kernel
theorem dX6_findingAt_0 : decode cX6_findingAt 0 = .ok (.iload_n 1, 1) := by decide +kernel
theorem dX6_findingAt_1 : decode cX6_findingAt 1 = .ok (.ifCond .lt 25, 3) := by decide +kernel
theorem dX6_findingAt_4 : decode cX6_findingAt 4 = .ok (.iload_n 1, 1) := by decide +kernel
theorem dX6_findingAt_5 : decode cX6_findingAt 5 = .ok (.aload_n 0, 1) := by decide +kernel
theorem dX6_findingAt_6 : decode cX6_findingAt 6 = .ok (.getfield 26, 3) := by decide +kernel
theorem dX6_findingAt_9 : decode cX6_findingAt 9 = .ok (.bipush 60, 2) := by decide +kernel
theorem dX6_findingAt_11 : decode cX6_findingAt 11 = .ok (.invokestatic 32, 3) := by decide +kernel
theorem dX6_findingAt_14 : decode cX6_findingAt 14 = .ok (.if_icmp .ge 12, 3) := by decide +kernel
theorem dX6_findingAt_17 : decode cX6_findingAt 17 = .ok (.iload_n 2, 1) := by decide +kernel
theorem dX6_findingAt_18 : decode cX6_findingAt 18 = .ok (.ifCond .lt 8, 3) := by decide +kernel
theorem dX6_findingAt_21 : decode cX6_findingAt 21 = .ok (.iload_n 2, 1) := by decide +kernel
theorem dX6_findingAt_22 : decode cX6_findingAt 22 = .ok (.iconst 5, 1) := by decide +kernel
theorem dX6_findingAt_23 : decode cX6_findingAt 23 = .ok (.if_icmp .lt 5, 3) := by decide +kernel
theorem dX6_findingAt_26 : decode cX6_findingAt 26 = .ok (.iconst (-1), 1) := by decide +kernel
theorem dX6_findingAt_27 : decode cX6_findingAt 27 = .ok (.ireturn, 1) := by decide +kernel
theorem dX6_findingAt_28 : decode cX6_findingAt 28 = .ok (.iconst 0, 1) := by decide +kernel
theorem dX6_findingAt_29 : decode cX6_findingAt 29 = .ok (.aload_n 0, 1) := by decide +kernel
theorem dX6_findingAt_30 : decode cX6_findingAt 30 = .ok (.getfield 26, 3) := by decide +kernel
theorem dX6_findingAt_33 : decode cX6_findingAt 33 = .ok (.bipush 60, 2) := by decide +kernel
theorem dX6_findingAt_35 : decode cX6_findingAt 35 = .ok (.isub, 1) := by decide +kernel
theorem dX6_findingAt_36 : decode cX6_findingAt 36 = .ok (.invokestatic 38, 3) := by decide +kernel
theorem dX6_findingAt_39 : decode cX6_findingAt 39 = .ok (.iload_n 1, 1) := by decide +kernel
theorem dX6_findingAt_40 : decode cX6_findingAt 40 = .ok (.iadd, 1) := by decide +kernel
theorem dX6_findingAt_41 : decode cX6_findingAt 41 = .ok (.bipush 60, 2) := by decide +kernel
theorem dX6_findingAt_43 : decode cX6_findingAt 43 = .ok (.irem, 1) := by decide +kernel
theorem dX6_findingAt_44 : decode cX6_findingAt 44 = .ok (.iconst 5, 1) := by decide +kernel
theorem dX6_findingAt_45 : decode cX6_findingAt 45 = .ok (.imul, 1) := by decide +kernel
theorem dX6_findingAt_46 : decode cX6_findingAt 46 = .ok (.istore_n 3, 1) := by decide +kernel
theorem dX6_findingAt_47 : decode cX6_findingAt 47 = .ok (.aload_n 0, 1) := by decide +kernel
theorem dX6_findingAt_48 : decode cX6_findingAt 48 = .ok (.getfield 15, 3) := by decide +kernel
theorem dX6_findingAt_51 : decode cX6_findingAt 51 = .ok (.iload_n 3, 1) := by decide +kernel
theorem dX6_findingAt_52 : decode cX6_findingAt 52 = .ok (.iload_n 2, 1) := by decide +kernel
theorem dX6_findingAt_53 : decode cX6_findingAt 53 = .ok (.iadd, 1) := by decide +kernel
theorem dX6_findingAt_54 : decode cX6_findingAt 54 = .ok (.iaload, 1) := by decide +kernel
theorem dX6_findingAt_55 : decode cX6_findingAt 55 = .ok (.ireturn, 1) := by decide +kernel
theorem dX7_init_0 : decode cX7_init 0 = .ok (.aload_n 0, 1) := by decide +kernel
theorem dX7_init_1 : decode cX7_init 1 = .ok (.iconst 4, 1) := by decide +kernel
theorem dX7_init_2 : decode cX7_init 2 = .ok (.invokespecial 3, 3) := by decide +kernel
theorem dX7_init_5 : decode cX7_init 5 = .ok (.aload_n 0, 1) := by decide +kernel
theorem dX7_init_6 : decode cX7_init 6 = .ok (.aload_n 1, 1) := by decide +kernel
theorem dX7_init_7 : decode cX7_init 7 = .ok (.putfield 9, 3) := by decide +kernel
theorem dX7_init_10 : decode cX7_init 10 = .ok (.aload_n 0, 1) := by decide +kernel
theorem dX7_init_11 : decode cX7_init 11 = .ok (.aload_n 2, 1) := by decide +kernel
theorem dX7_init_12 : decode cX7_init 12 = .ok (.putfield 15, 3) := by decide +kernel
theorem dX7_init_15 : decode cX7_init 15 = .ok (.return_, 1) := by decide +kernel
theorem dX7_size_0 : decode cX7_size 0 = .ok (.aload_n 1, 1) := by decide +kernel
theorem dX7_size_1 : decode cX7_size 1 = .ok (.bipush 12, 2) := by decide +kernel
theorem dX7_size_3 : decode cX7_size 3 = .ok (.invokevirtual 18, 3) := by decide +kernel
theorem dX7_size_6 : decode cX7_size 6 = .ok (.iconst 1, 1) := by decide +kernel
theorem dX7_size_7 : decode cX7_size 7 = .ok (.iload_n 2, 1) := by decide +kernel
theorem dX7_size_8 : decode cX7_size 8 = .ok (.bipush 8, 2) := by decide +kernel
theorem dX7_size_10 : decode cX7_size 10 = .ok (.idiv, 1) := by decide +kernel
theorem dX7_size_11 : decode cX7_size 11 = .ok (.invokestatic 23, 3) := by decide +kernel
theorem dX7_size_14 : decode cX7_size 14 = .ok (.ireturn, 1) := by decide +kernel
theorem dX7_allows_0 : decode cX7_allows 0 = .ok (.aload_n 1, 1) := by decide +kernel
theorem dX7_allows_1 : decode cX7_allows 1 = .ok (.bipush 24, 2) := by decide +kernel
theorem dX7_allows_3 : decode cX7_allows 3 = .ok (.invokevirtual 18, 3) := by decide +kernel
theorem dX7_allows_6 : decode cX7_allows 6 = .ok (.aload_n 0, 1) := by decide +kernel
theorem dX7_allows_7 : decode cX7_allows 7 = .ok (.getfield 9, 3) := by decide +kernel
theorem dX7_allows_10 : decode cX7_allows 10 = .ok (.aload_n 1, 1) := by decide +kernel
theorem dX7_allows_11 : decode cX7_allows 11 = .ok (.aload_n 2, 1) := by decide +kernel
theorem dX7_allows_12 : decode cX7_allows 12 = .ok (.aload_n 3, 1) := by decide +kernel
theorem dX7_allows_13 : decode cX7_allows 13 = .ok (.aload 4, 2) := by decide +kernel
theorem dX7_allows_15 : decode cX7_allows 15 = .ok (.iload 5, 2) := by decide +kernel
theorem dX7_allows_17 : decode cX7_allows 17 = .ok (.invokevirtual 29, 3) := by decide +kernel
theorem dX7_allows_20 : decode cX7_allows 20 = .ok (.ireturn, 1) := by decide +kernel
theorem dX7_wins_0 : decode cX7_wins 0 = .ok (.aload_n 1, 1) := by decide +kernel
theorem dX7_wins_1 : decode cX7_wins 1 = .ok (.bipush 34, 2) := by decide +kernel
theorem dX7_wins_3 : decode cX7_wins 3 = .ok (.invokevirtual 18, 3) := by decide +kernel
theorem dX7_wins_6 : decode cX7_wins 6 = .ok (.aload_n 0, 1) := by decide +kernel
theorem dX7_wins_7 : decode cX7_wins 7 = .ok (.getfield 9, 3) := by decide +kernel
theorem dX7_wins_10 : decode cX7_wins 10 = .ok (.aload_n 1, 1) := by decide +kernel
theorem dX7_wins_11 : decode cX7_wins 11 = .ok (.aload_n 2, 1) := by decide +kernel
theorem dX7_wins_12 : decode cX7_wins 12 = .ok (.aload_n 3, 1) := by decide +kernel
theorem dX7_wins_13 : decode cX7_wins 13 = .ok (.invokevirtual 35, 3) := by decide +kernel
theorem dX7_wins_16 : decode cX7_wins 16 = .ok (.ireturn, 1) := by decide +kernel
theorem dX7_score_0 : decode cX7_score 0 = .ok (.aload_n 1, 1) := by decide +kernel
theorem dX7_score_1 : decode cX7_score 1 = .ok (.bipush 45, 2) := by decide +kernel
theorem dX7_score_3 : decode cX7_score 3 = .ok (.invokevirtual 18, 3) := by decide +kernel
theorem dX7_score_6 : decode cX7_score 6 = .ok (.aload_n 0, 1) := by decide +kernel
theorem dX7_score_7 : decode cX7_score 7 = .ok (.getfield 15, 3) := by decide +kernel
theorem dX7_score_10 : decode cX7_score 10 = .ok (.aload_n 1, 1) := by decide +kernel
theorem dX7_score_11 : decode cX7_score 11 = .ok (.aload_n 2, 1) := by decide +kernel
theorem dX7_score_12 : decode cX7_score 12 = .ok (.aload_n 3, 1) := by decide +kernel
theorem dX7_score_13 : decode cX7_score 13 = .ok (.iload 4, 2) := by decide +kernel
theorem dX7_score_15 : decode cX7_score 15 = .ok (.invokevirtual 39, 3) := by decide +kernel
theorem dX7_score_18 : decode cX7_score 18 = .ok (.iconst 1, 1) := by decide +kernel
theorem dX7_score_19 : decode cX7_score 19 = .ok (.iadd, 1) := by decide +kernel
theorem dX7_score_20 : decode cX7_score 20 = .ok (.ireturn, 1) := by decide +kernel
theorem dX7_settle_0 : decode cX7_settle 0 = .ok (.aload_n 1, 1) := by decide +kernel
theorem dX7_settle_1 : decode cX7_settle 1 = .ok (.bipush 53, 2) := by decide +kernel
theorem dX7_settle_3 : decode cX7_settle 3 = .ok (.invokevirtual 18, 3) := by decide +kernel
theorem dX7_settle_6 : decode cX7_settle 6 = .ok (.aload_n 0, 1) := by decide +kernel
theorem dX7_settle_7 : decode cX7_settle 7 = .ok (.getfield 15, 3) := by decide +kernel
theorem dX7_settle_10 : decode cX7_settle 10 = .ok (.aload_n 1, 1) := by decide +kernel
theorem dX7_settle_11 : decode cX7_settle 11 = .ok (.aload_n 2, 1) := by decide +kernel
theorem dX7_settle_12 : decode cX7_settle 12 = .ok (.iload_n 3, 1) := by decide +kernel
theorem dX7_settle_13 : decode cX7_settle 13 = .ok (.iload 4, 2) := by decide +kernel
theorem dX7_settle_15 : decode cX7_settle 15 = .ok (.invokevirtual 43, 3) := by decide +kernel
theorem dX7_settle_18 : decode cX7_settle 18 = .ok (.ireturn, 1) := by decide +kernel
theorem dX7_player_0 : decode cX7_player 0 = .ok (.aload_n 0, 1) := by decide +kernel
theorem dX7_player_1 : decode cX7_player 1 = .ok (.getfield 9, 3) := by decide +kernel
theorem dX7_player_4 : decode cX7_player 4 = .ok (.areturn, 1) := by decide +kernel
theorem dX8_init_0 : decode cX8_init 0 = .ok (.aload_n 0, 1) := by decide +kernel
theorem dX8_init_1 : decode cX8_init 1 = .ok (.invokespecial 3, 3) := by decide +kernel
theorem dX8_init_4 : decode cX8_init 4 = .ok (.aload_n 0, 1) := by decide +kernel
theorem dX8_init_5 : decode cX8_init 5 = .ok (.iconst 0, 1) := by decide +kernel
theorem dX8_init_6 : decode cX8_init 6 = .ok (.iload_n 1, 1) := by decide +kernel
theorem dX8_init_7 : decode cX8_init 7 = .ok (.invokestatic 9, 3) := by decide +kernel
theorem dX8_init_10 : decode cX8_init 10 = .ok (.newarray .int, 2) := by decide +kernel
theorem dX8_init_12 : decode cX8_init 12 = .ok (.putfield 15, 3) := by decide +kernel
theorem dX8_init_15 : decode cX8_init 15 = .ok (.return_, 1) := by decide +kernel
theorem dX8_at_0 : decode cX8_at 0 = .ok (.iload_n 1, 1) := by decide +kernel
theorem dX8_at_1 : decode cX8_at 1 = .ok (.ifCond .lt 29, 3) := by decide +kernel
theorem dX8_at_4 : decode cX8_at 4 = .ok (.iload_n 1, 1) := by decide +kernel
theorem dX8_at_5 : decode cX8_at 5 = .ok (.aload_n 0, 1) := by decide +kernel
theorem dX8_at_6 : decode cX8_at 6 = .ok (.getfield 21, 3) := by decide +kernel
theorem dX8_at_9 : decode cX8_at 9 = .ok (.if_icmp .ge 21, 3) := by decide +kernel
theorem dX8_at_12 : decode cX8_at 12 = .ok (.iload_n 1, 1) := by decide +kernel
theorem dX8_at_13 : decode cX8_at 13 = .ok (.aload_n 0, 1) := by decide +kernel
theorem dX8_at_14 : decode cX8_at 14 = .ok (.getfield 15, 3) := by decide +kernel
theorem dX8_at_17 : decode cX8_at 17 = .ok (.arraylength, 1) := by decide +kernel
theorem dX8_at_18 : decode cX8_at 18 = .ok (.if_icmp .ge 12, 3) := by decide +kernel
theorem dX8_at_21 : decode cX8_at 21 = .ok (.aload_n 0, 1) := by decide +kernel
theorem dX8_at_22 : decode cX8_at 22 = .ok (.getfield 15, 3) := by decide +kernel
theorem dX8_at_25 : decode cX8_at 25 = .ok (.iload_n 1, 1) := by decide +kernel
theorem dX8_at_26 : decode cX8_at 26 = .ok (.iaload, 1) := by decide +kernel
theorem dX8_at_27 : decode cX8_at 27 = .ok (.goto 4, 3) := by decide +kernel
theorem dX8_at_30 : decode cX8_at 30 = .ok (.iconst (-1), 1) := by decide +kernel
theorem dX8_at_31 : decode cX8_at 31 = .ok (.ireturn, 1) := by decide +kernel
theorem dX8_add_0 : decode cX8_add 0 = .ok (.iconst 0, 1) := by decide +kernel
theorem dX8_add_1 : decode cX8_add 1 = .ok (.aload_n 0, 1) := by decide +kernel
theorem dX8_add_2 : decode cX8_add 2 = .ok (.getfield 21, 3) := by decide +kernel
theorem dX8_add_5 : decode cX8_add 5 = .ok (.invokestatic 9, 3) := by decide +kernel
theorem dX8_add_8 : decode cX8_add 8 = .ok (.istore_n 2, 1) := by decide +kernel
theorem dX8_add_9 : decode cX8_add 9 = .ok (.iload_n 2, 1) := by decide +kernel
theorem dX8_add_10 : decode cX8_add 10 = .ok (.aload_n 0, 1) := by decide +kernel
theorem dX8_add_11 : decode cX8_add 11 = .ok (.getfield 15, 3) := by decide +kernel
theorem dX8_add_14 : decode cX8_add 14 = .ok (.arraylength, 1) := by decide +kernel
theorem dX8_add_15 : decode cX8_add 15 = .ok (.if_icmp .ge 17, 3) := by decide +kernel
theorem dX8_add_18 : decode cX8_add 18 = .ok (.aload_n 0, 1) := by decide +kernel
theorem dX8_add_19 : decode cX8_add 19 = .ok (.getfield 15, 3) := by decide +kernel
theorem dX8_add_22 : decode cX8_add 22 = .ok (.iload_n 2, 1) := by decide +kernel
theorem dX8_add_23 : decode cX8_add 23 = .ok (.iload_n 1, 1) := by decide +kernel
theorem dX8_add_24 : decode cX8_add 24 = .ok (.iastore, 1) := by decide +kernel
theorem dX8_add_25 : decode cX8_add 25 = .ok (.aload_n 0, 1) := by decide +kernel
theorem dX8_add_26 : decode cX8_add 26 = .ok (.iload_n 2, 1) := by decide +kernel
theorem dX8_add_27 : decode cX8_add 27 = .ok (.iconst 1, 1) := by decide +kernel
theorem dX8_add_28 : decode cX8_add 28 = .ok (.iadd, 1) := by decide +kernel
theorem dX8_add_29 : decode cX8_add 29 = .ok (.putfield 21, 3) := by decide +kernel
theorem dX8_add_32 : decode cX8_add 32 = .ok (.return_, 1) := by decide +kernel
theorem dX8_takeAt_0 : decode cX8_takeAt 0 = .ok (.iload_n 1, 1) := by decide +kernel
theorem dX8_takeAt_1 : decode cX8_takeAt 1 = .ok (.ifCond .lt 23, 3) := by decide +kernel
theorem dX8_takeAt_4 : decode cX8_takeAt 4 = .ok (.iload_n 1, 1) := by decide +kernel
theorem dX8_takeAt_5 : decode cX8_takeAt 5 = .ok (.aload_n 0, 1) := by decide +kernel
theorem dX8_takeAt_6 : decode cX8_takeAt 6 = .ok (.getfield 21, 3) := by decide +kernel
theorem dX8_takeAt_9 : decode cX8_takeAt 9 = .ok (.if_icmp .ge 15, 3) := by decide +kernel
theorem dX8_takeAt_12 : decode cX8_takeAt 12 = .ok (.aload_n 0, 1) := by decide +kernel
theorem dX8_takeAt_13 : decode cX8_takeAt 13 = .ok (.getfield 21, 3) := by decide +kernel
theorem dX8_takeAt_16 : decode cX8_takeAt 16 = .ok (.aload_n 0, 1) := by decide +kernel
theorem dX8_takeAt_17 : decode cX8_takeAt 17 = .ok (.getfield 15, 3) := by decide +kernel
theorem dX8_takeAt_20 : decode cX8_takeAt 20 = .ok (.arraylength, 1) := by decide +kernel
theorem dX8_takeAt_21 : decode cX8_takeAt 21 = .ok (.if_icmp .le 5, 3) := by decide +kernel
theorem dX8_takeAt_24 : decode cX8_takeAt 24 = .ok (.iconst (-1), 1) := by decide +kernel
theorem dX8_takeAt_25 : decode cX8_takeAt 25 = .ok (.ireturn, 1) := by decide +kernel
theorem dX8_takeAt_26 : decode cX8_takeAt 26 = .ok (.aload_n 0, 1) := by decide +kernel
theorem dX8_takeAt_27 : decode cX8_takeAt 27 = .ok (.getfield 15, 3) := by decide +kernel
theorem dX8_takeAt_30 : decode cX8_takeAt 30 = .ok (.iload_n 1, 1) := by decide +kernel
theorem dX8_takeAt_31 : decode cX8_takeAt 31 = .ok (.iaload, 1) := by decide +kernel
theorem dX8_takeAt_32 : decode cX8_takeAt 32 = .ok (.istore_n 2, 1) := by decide +kernel
theorem dX8_takeAt_33 : decode cX8_takeAt 33 = .ok (.aload_n 0, 1) := by decide +kernel
theorem dX8_takeAt_34 : decode cX8_takeAt 34 = .ok (.getfield 15, 3) := by decide +kernel
theorem dX8_takeAt_37 : decode cX8_takeAt 37 = .ok (.iload_n 1, 1) := by decide +kernel
theorem dX8_takeAt_38 : decode cX8_takeAt 38 = .ok (.iconst 1, 1) := by decide +kernel
theorem dX8_takeAt_39 : decode cX8_takeAt 39 = .ok (.iadd, 1) := by decide +kernel
theorem dX8_takeAt_40 : decode cX8_takeAt 40 = .ok (.aload_n 0, 1) := by decide +kernel
theorem dX8_takeAt_41 : decode cX8_takeAt 41 = .ok (.getfield 15, 3) := by decide +kernel
theorem dX8_takeAt_44 : decode cX8_takeAt 44 = .ok (.iload_n 1, 1) := by decide +kernel
theorem dX8_takeAt_45 : decode cX8_takeAt 45 = .ok (.aload_n 0, 1) := by decide +kernel
theorem dX8_takeAt_46 : decode cX8_takeAt 46 = .ok (.getfield 21, 3) := by decide +kernel
theorem dX8_takeAt_49 : decode cX8_takeAt 49 = .ok (.iconst 1, 1) := by decide +kernel
theorem dX8_takeAt_50 : decode cX8_takeAt 50 = .ok (.isub, 1) := by decide +kernel
theorem dX8_takeAt_51 : decode cX8_takeAt 51 = .ok (.iload_n 1, 1) := by decide +kernel
theorem dX8_takeAt_52 : decode cX8_takeAt 52 = .ok (.isub, 1) := by decide +kernel
theorem dX8_takeAt_53 : decode cX8_takeAt 53 = .ok (.invokestatic 25, 3) := by decide +kernel
theorem dX8_takeAt_56 : decode cX8_takeAt 56 = .ok (.aload_n 0, 1) := by decide +kernel
theorem dX8_takeAt_57 : decode cX8_takeAt 57 = .ok (.dup, 1) := by decide +kernel
theorem dX8_takeAt_58 : decode cX8_takeAt 58 = .ok (.getfield 21, 3) := by decide +kernel
theorem dX8_takeAt_61 : decode cX8_takeAt 61 = .ok (.iconst 1, 1) := by decide +kernel
theorem dX8_takeAt_62 : decode cX8_takeAt 62 = .ok (.isub, 1) := by decide +kernel
theorem dX8_takeAt_63 : decode cX8_takeAt 63 = .ok (.putfield 21, 3) := by decide +kernel
theorem dX8_takeAt_66 : decode cX8_takeAt 66 = .ok (.iload_n 2, 1) := by decide +kernel
theorem dX8_takeAt_67 : decode cX8_takeAt 67 = .ok (.ireturn, 1) := by decide +kernel
theorem dX8_putAt_0 : decode cX8_putAt 0 = .ok (.iload_n 1, 1) := by decide +kernel
theorem dX8_putAt_1 : decode cX8_putAt 1 = .ok (.ifCond .lt 61, 3) := by decide +kernel
theorem dX8_putAt_4 : decode cX8_putAt 4 = .ok (.iload_n 1, 1) := by decide +kernel
theorem dX8_putAt_5 : decode cX8_putAt 5 = .ok (.aload_n 0, 1) := by decide +kernel
theorem dX8_putAt_6 : decode cX8_putAt 6 = .ok (.getfield 21, 3) := by decide +kernel
theorem dX8_putAt_9 : decode cX8_putAt 9 = .ok (.if_icmp .gt 53, 3) := by decide +kernel
theorem dX8_putAt_12 : decode cX8_putAt 12 = .ok (.aload_n 0, 1) := by decide +kernel
theorem dX8_putAt_13 : decode cX8_putAt 13 = .ok (.getfield 21, 3) := by decide +kernel
theorem dX8_putAt_16 : decode cX8_putAt 16 = .ok (.aload_n 0, 1) := by decide +kernel
theorem dX8_putAt_17 : decode cX8_putAt 17 = .ok (.getfield 15, 3) := by decide +kernel
theorem dX8_putAt_20 : decode cX8_putAt 20 = .ok (.arraylength, 1) := by decide +kernel
theorem dX8_putAt_21 : decode cX8_putAt 21 = .ok (.if_icmp .ge 41, 3) := by decide +kernel
theorem dX8_putAt_24 : decode cX8_putAt 24 = .ok (.aload_n 0, 1) := by decide +kernel
theorem dX8_putAt_25 : decode cX8_putAt 25 = .ok (.getfield 15, 3) := by decide +kernel
theorem dX8_putAt_28 : decode cX8_putAt 28 = .ok (.iload_n 1, 1) := by decide +kernel
theorem dX8_putAt_29 : decode cX8_putAt 29 = .ok (.aload_n 0, 1) := by decide +kernel
theorem dX8_putAt_30 : decode cX8_putAt 30 = .ok (.getfield 15, 3) := by decide +kernel
theorem dX8_putAt_33 : decode cX8_putAt 33 = .ok (.iload_n 1, 1) := by decide +kernel
theorem dX8_putAt_34 : decode cX8_putAt 34 = .ok (.iconst 1, 1) := by decide +kernel
theorem dX8_putAt_35 : decode cX8_putAt 35 = .ok (.iadd, 1) := by decide +kernel
theorem dX8_putAt_36 : decode cX8_putAt 36 = .ok (.aload_n 0, 1) := by decide +kernel
theorem dX8_putAt_37 : decode cX8_putAt 37 = .ok (.getfield 21, 3) := by decide +kernel
theorem dX8_putAt_40 : decode cX8_putAt 40 = .ok (.iload_n 1, 1) := by decide +kernel
theorem dX8_putAt_41 : decode cX8_putAt 41 = .ok (.isub, 1) := by decide +kernel
theorem dX8_putAt_42 : decode cX8_putAt 42 = .ok (.invokestatic 25, 3) := by decide +kernel
theorem dX8_putAt_45 : decode cX8_putAt 45 = .ok (.aload_n 0, 1) := by decide +kernel
theorem dX8_putAt_46 : decode cX8_putAt 46 = .ok (.getfield 15, 3) := by decide +kernel
theorem dX8_putAt_49 : decode cX8_putAt 49 = .ok (.iload_n 1, 1) := by decide +kernel
theorem dX8_putAt_50 : decode cX8_putAt 50 = .ok (.iload_n 2, 1) := by decide +kernel
theorem dX8_putAt_51 : decode cX8_putAt 51 = .ok (.iastore, 1) := by decide +kernel
theorem dX8_putAt_52 : decode cX8_putAt 52 = .ok (.aload_n 0, 1) := by decide +kernel
theorem dX8_putAt_53 : decode cX8_putAt 53 = .ok (.dup, 1) := by decide +kernel
theorem dX8_putAt_54 : decode cX8_putAt 54 = .ok (.getfield 21, 3) := by decide +kernel
theorem dX8_putAt_57 : decode cX8_putAt 57 = .ok (.iconst 1, 1) := by decide +kernel
theorem dX8_putAt_58 : decode cX8_putAt 58 = .ok (.iadd, 1) := by decide +kernel
theorem dX8_putAt_59 : decode cX8_putAt 59 = .ok (.putfield 21, 3) := by decide +kernel
theorem dX8_putAt_62 : decode cX8_putAt 62 = .ok (.return_, 1) := by decide +kernel
theorem dX8_placeOf_0 : decode cX8_placeOf 0 = .ok (.iconst 0, 1) := by decide +kernel
theorem dX8_placeOf_1 : decode cX8_placeOf 1 = .ok (.istore_n 2, 1) := by decide +kernel
theorem dX8_placeOf_2 : decode cX8_placeOf 2 = .ok (.iload_n 2, 1) := by decide +kernel
theorem dX8_placeOf_3 : decode cX8_placeOf 3 = .ok (.aload_n 0, 1) := by decide +kernel
theorem dX8_placeOf_4 : decode cX8_placeOf 4 = .ok (.getfield 21, 3) := by decide +kernel
theorem dX8_placeOf_7 : decode cX8_placeOf 7 = .ok (.if_icmp .ge 30, 3) := by decide +kernel
theorem dX8_placeOf_10 : decode cX8_placeOf 10 = .ok (.iload_n 2, 1) := by decide +kernel
theorem dX8_placeOf_11 : decode cX8_placeOf 11 = .ok (.aload_n 0, 1) := by decide +kernel
theorem dX8_placeOf_12 : decode cX8_placeOf 12 = .ok (.getfield 15, 3) := by decide +kernel
theorem dX8_placeOf_15 : decode cX8_placeOf 15 = .ok (.arraylength, 1) := by decide +kernel
theorem dX8_placeOf_16 : decode cX8_placeOf 16 = .ok (.if_icmp .ge 21, 3) := by decide +kernel
theorem dX8_placeOf_19 : decode cX8_placeOf 19 = .ok (.aload_n 0, 1) := by decide +kernel
theorem dX8_placeOf_20 : decode cX8_placeOf 20 = .ok (.getfield 15, 3) := by decide +kernel
theorem dX8_placeOf_23 : decode cX8_placeOf 23 = .ok (.iload_n 2, 1) := by decide +kernel
theorem dX8_placeOf_24 : decode cX8_placeOf 24 = .ok (.iaload, 1) := by decide +kernel
theorem dX8_placeOf_25 : decode cX8_placeOf 25 = .ok (.iload_n 1, 1) := by decide +kernel
theorem dX8_placeOf_26 : decode cX8_placeOf 26 = .ok (.if_icmp .ne 5, 3) := by decide +kernel
theorem dX8_placeOf_29 : decode cX8_placeOf 29 = .ok (.iload_n 2, 1) := by decide +kernel
theorem dX8_placeOf_30 : decode cX8_placeOf 30 = .ok (.ireturn, 1) := by decide +kernel
theorem dX8_placeOf_31 : decode cX8_placeOf 31 = .ok (.iinc 2 1, 3) := by decide +kernel
theorem dX8_placeOf_34 : decode cX8_placeOf 34 = .ok (.goto (-32), 3) := by decide +kernel
theorem dX8_placeOf_37 : decode cX8_placeOf 37 = .ok (.iconst (-1), 1) := by decide +kernel
theorem dX8_placeOf_38 : decode cX8_placeOf 38 = .ok (.ireturn, 1) := by decide +kernel
theorem dX8_swap_0 : decode cX8_swap 0 = .ok (.iload_n 1, 1) := by decide +kernel
theorem dX8_swap_1 : decode cX8_swap 1 = .ok (.ifCond .lt 51, 3) := by decide +kernel
theorem dX8_swap_4 : decode cX8_swap 4 = .ok (.iload_n 1, 1) := by decide +kernel
theorem dX8_swap_5 : decode cX8_swap 5 = .ok (.aload_n 0, 1) := by decide +kernel
theorem dX8_swap_6 : decode cX8_swap 6 = .ok (.getfield 15, 3) := by decide +kernel
theorem dX8_swap_9 : decode cX8_swap 9 = .ok (.arraylength, 1) := by decide +kernel
theorem dX8_swap_10 : decode cX8_swap 10 = .ok (.if_icmp .ge 42, 3) := by decide +kernel
theorem dX8_swap_13 : decode cX8_swap 13 = .ok (.iload_n 2, 1) := by decide +kernel
theorem dX8_swap_14 : decode cX8_swap 14 = .ok (.ifCond .lt 38, 3) := by decide +kernel
theorem dX8_swap_17 : decode cX8_swap 17 = .ok (.iload_n 2, 1) := by decide +kernel
theorem dX8_swap_18 : decode cX8_swap 18 = .ok (.aload_n 0, 1) := by decide +kernel
theorem dX8_swap_19 : decode cX8_swap 19 = .ok (.getfield 15, 3) := by decide +kernel
theorem dX8_swap_22 : decode cX8_swap 22 = .ok (.arraylength, 1) := by decide +kernel
theorem dX8_swap_23 : decode cX8_swap 23 = .ok (.if_icmp .ge 29, 3) := by decide +kernel
theorem dX8_swap_26 : decode cX8_swap 26 = .ok (.aload_n 0, 1) := by decide +kernel
theorem dX8_swap_27 : decode cX8_swap 27 = .ok (.getfield 15, 3) := by decide +kernel
theorem dX8_swap_30 : decode cX8_swap 30 = .ok (.iload_n 1, 1) := by decide +kernel
theorem dX8_swap_31 : decode cX8_swap 31 = .ok (.iaload, 1) := by decide +kernel
theorem dX8_swap_32 : decode cX8_swap 32 = .ok (.istore_n 3, 1) := by decide +kernel
theorem dX8_swap_33 : decode cX8_swap 33 = .ok (.aload_n 0, 1) := by decide +kernel
theorem dX8_swap_34 : decode cX8_swap 34 = .ok (.getfield 15, 3) := by decide +kernel
theorem dX8_swap_37 : decode cX8_swap 37 = .ok (.iload_n 1, 1) := by decide +kernel
theorem dX8_swap_38 : decode cX8_swap 38 = .ok (.aload_n 0, 1) := by decide +kernel
theorem dX8_swap_39 : decode cX8_swap 39 = .ok (.getfield 15, 3) := by decide +kernel
theorem dX8_swap_42 : decode cX8_swap 42 = .ok (.iload_n 2, 1) := by decide +kernel
theorem dX8_swap_43 : decode cX8_swap 43 = .ok (.iaload, 1) := by decide +kernel
theorem dX8_swap_44 : decode cX8_swap 44 = .ok (.iastore, 1) := by decide +kernel
theorem dX8_swap_45 : decode cX8_swap 45 = .ok (.aload_n 0, 1) := by decide +kernel
theorem dX8_swap_46 : decode cX8_swap 46 = .ok (.getfield 15, 3) := by decide +kernel
theorem dX8_swap_49 : decode cX8_swap 49 = .ok (.iload_n 2, 1) := by decide +kernel
theorem dX8_swap_50 : decode cX8_swap 50 = .ok (.iload_n 3, 1) := by decide +kernel
theorem dX8_swap_51 : decode cX8_swap 51 = .ok (.iastore, 1) := by decide +kernel
theorem dX8_swap_52 : decode cX8_swap 52 = .ok (.return_, 1) := by decide +kernel
theorem dX8_setTo_0 : decode cX8_setTo 0 = .ok (.aload_n 1, 1) := by decide +kernel
theorem dX8_setTo_1 : decode cX8_setTo 1 = .ok (.getfield 15, 3) := by decide +kernel
theorem dX8_setTo_4 : decode cX8_setTo 4 = .ok (.aload_n 0, 1) := by decide +kernel
theorem dX8_setTo_5 : decode cX8_setTo 5 = .ok (.getfield 15, 3) := by decide +kernel
theorem dX8_setTo_8 : decode cX8_setTo 8 = .ok (.invokestatic 31, 3) := by decide +kernel
theorem dX8_setTo_11 : decode cX8_setTo 11 = .ok (.aload_n 0, 1) := by decide +kernel
theorem dX8_setTo_12 : decode cX8_setTo 12 = .ok (.aload_n 1, 1) := by decide +kernel
theorem dX8_setTo_13 : decode cX8_setTo 13 = .ok (.getfield 21, 3) := by decide +kernel
theorem dX8_setTo_16 : decode cX8_setTo 16 = .ok (.aload_n 0, 1) := by decide +kernel
theorem dX8_setTo_17 : decode cX8_setTo 17 = .ok (.getfield 15, 3) := by decide +kernel
theorem dX8_setTo_20 : decode cX8_setTo 20 = .ok (.arraylength, 1) := by decide +kernel
theorem dX8_setTo_21 : decode cX8_setTo 21 = .ok (.invokestatic 35, 3) := by decide +kernel
theorem dX8_setTo_24 : decode cX8_setTo 24 = .ok (.putfield 21, 3) := by decide +kernel
theorem dX8_setTo_27 : decode cX8_setTo 27 = .ok (.return_, 1) := by decide +kernel
theorem dX8_isLike_0 : decode cX8_isLike 0 = .ok (.aload_n 0, 1) := by decide +kernel
theorem dX8_isLike_1 : decode cX8_isLike 1 = .ok (.getfield 21, 3) := by decide +kernel
theorem dX8_isLike_4 : decode cX8_isLike 4 = .ok (.aload_n 1, 1) := by decide +kernel
theorem dX8_isLike_5 : decode cX8_isLike 5 = .ok (.getfield 21, 3) := by decide +kernel
theorem dX8_isLike_8 : decode cX8_isLike 8 = .ok (.if_icmp .eq 5, 3) := by decide +kernel
theorem dX8_isLike_11 : decode cX8_isLike 11 = .ok (.iconst 0, 1) := by decide +kernel
theorem dX8_isLike_12 : decode cX8_isLike 12 = .ok (.ireturn, 1) := by decide +kernel
theorem dX8_isLike_13 : decode cX8_isLike 13 = .ok (.iconst 0, 1) := by decide +kernel
theorem dX8_isLike_14 : decode cX8_isLike 14 = .ok (.istore_n 2, 1) := by decide +kernel
theorem dX8_isLike_15 : decode cX8_isLike 15 = .ok (.iload_n 2, 1) := by decide +kernel
theorem dX8_isLike_16 : decode cX8_isLike 16 = .ok (.aload_n 0, 1) := by decide +kernel
theorem dX8_isLike_17 : decode cX8_isLike 17 = .ok (.getfield 21, 3) := by decide +kernel
theorem dX8_isLike_20 : decode cX8_isLike 20 = .ok (.if_icmp .ge 24, 3) := by decide +kernel
theorem dX8_isLike_23 : decode cX8_isLike 23 = .ok (.aload_n 0, 1) := by decide +kernel
theorem dX8_isLike_24 : decode cX8_isLike 24 = .ok (.iload_n 2, 1) := by decide +kernel
theorem dX8_isLike_25 : decode cX8_isLike 25 = .ok (.invokevirtual 38, 3) := by decide +kernel
theorem dX8_isLike_28 : decode cX8_isLike 28 = .ok (.aload_n 1, 1) := by decide +kernel
theorem dX8_isLike_29 : decode cX8_isLike 29 = .ok (.iload_n 2, 1) := by decide +kernel
theorem dX8_isLike_30 : decode cX8_isLike 30 = .ok (.invokevirtual 38, 3) := by decide +kernel
theorem dX8_isLike_33 : decode cX8_isLike 33 = .ok (.if_icmp .eq 5, 3) := by decide +kernel
theorem dX8_isLike_36 : decode cX8_isLike 36 = .ok (.iconst 0, 1) := by decide +kernel
theorem dX8_isLike_37 : decode cX8_isLike 37 = .ok (.ireturn, 1) := by decide +kernel
theorem dX8_isLike_38 : decode cX8_isLike 38 = .ok (.iinc 2 1, 3) := by decide +kernel
theorem dX8_isLike_41 : decode cX8_isLike 41 = .ok (.goto (-26), 3) := by decide +kernel
theorem dX8_isLike_44 : decode cX8_isLike 44 = .ok (.iconst 1, 1) := by decide +kernel
theorem dX8_isLike_45 : decode cX8_isLike 45 = .ok (.ireturn, 1) := by decide +kernel
theorem dX8_digestFrom_0 : decode cX8_digestFrom 0 = .ok (.bipush 31, 2) := by decide +kernel
theorem dX8_digestFrom_2 : decode cX8_digestFrom 2 = .ok (.iload_n 1, 1) := by decide +kernel
theorem dX8_digestFrom_3 : decode cX8_digestFrom 3 = .ok (.imul, 1) := by decide +kernel
theorem dX8_digestFrom_4 : decode cX8_digestFrom 4 = .ok (.aload_n 0, 1) := by decide +kernel
theorem dX8_digestFrom_5 : decode cX8_digestFrom 5 = .ok (.getfield 21, 3) := by decide +kernel
theorem dX8_digestFrom_8 : decode cX8_digestFrom 8 = .ok (.iadd, 1) := by decide +kernel
theorem dX8_digestFrom_9 : decode cX8_digestFrom 9 = .ok (.istore_n 2, 1) := by decide +kernel
theorem dX8_digestFrom_10 : decode cX8_digestFrom 10 = .ok (.iconst 0, 1) := by decide +kernel
theorem dX8_digestFrom_11 : decode cX8_digestFrom 11 = .ok (.istore_n 3, 1) := by decide +kernel
theorem dX8_digestFrom_12 : decode cX8_digestFrom 12 = .ok (.iload_n 3, 1) := by decide +kernel
theorem dX8_digestFrom_13 : decode cX8_digestFrom 13 = .ok (.aload_n 0, 1) := by decide +kernel
theorem dX8_digestFrom_14 : decode cX8_digestFrom 14 = .ok (.getfield 21, 3) := by decide +kernel
theorem dX8_digestFrom_17 : decode cX8_digestFrom 17 = .ok (.if_icmp .ge 30, 3) := by decide +kernel
theorem dX8_digestFrom_20 : decode cX8_digestFrom 20 = .ok (.iload_n 3, 1) := by decide +kernel
theorem dX8_digestFrom_21 : decode cX8_digestFrom 21 = .ok (.aload_n 0, 1) := by decide +kernel
theorem dX8_digestFrom_22 : decode cX8_digestFrom 22 = .ok (.getfield 15, 3) := by decide +kernel
theorem dX8_digestFrom_25 : decode cX8_digestFrom 25 = .ok (.arraylength, 1) := by decide +kernel
theorem dX8_digestFrom_26 : decode cX8_digestFrom 26 = .ok (.if_icmp .ge 21, 3) := by decide +kernel
theorem dX8_digestFrom_29 : decode cX8_digestFrom 29 = .ok (.bipush 31, 2) := by decide +kernel
theorem dX8_digestFrom_31 : decode cX8_digestFrom 31 = .ok (.iload_n 2, 1) := by decide +kernel
theorem dX8_digestFrom_32 : decode cX8_digestFrom 32 = .ok (.imul, 1) := by decide +kernel
theorem dX8_digestFrom_33 : decode cX8_digestFrom 33 = .ok (.aload_n 0, 1) := by decide +kernel
theorem dX8_digestFrom_34 : decode cX8_digestFrom 34 = .ok (.getfield 15, 3) := by decide +kernel
theorem dX8_digestFrom_37 : decode cX8_digestFrom 37 = .ok (.iload_n 3, 1) := by decide +kernel
theorem dX8_digestFrom_38 : decode cX8_digestFrom 38 = .ok (.iaload, 1) := by decide +kernel
theorem dX8_digestFrom_39 : decode cX8_digestFrom 39 = .ok (.iadd, 1) := by decide +kernel
theorem dX8_digestFrom_40 : decode cX8_digestFrom 40 = .ok (.istore_n 2, 1) := by decide +kernel
theorem dX8_digestFrom_41 : decode cX8_digestFrom 41 = .ok (.iinc 3 1, 3) := by decide +kernel
theorem dX8_digestFrom_44 : decode cX8_digestFrom 44 = .ok (.goto (-32), 3) := by decide +kernel
theorem dX8_digestFrom_47 : decode cX8_digestFrom 47 = .ok (.iload_n 2, 1) := by decide +kernel
theorem dX8_digestFrom_48 : decode cX8_digestFrom 48 = .ok (.ireturn, 1) := by decide +kernel
theorem dX9_init_0 : decode cX9_init 0 = .ok (.aload_n 0, 1) := by decide +kernel
theorem dX9_init_1 : decode cX9_init 1 = .ok (.invokespecial 3, 3) := by decide +kernel
theorem dX9_init_4 : decode cX9_init 4 = .ok (.aload_n 0, 1) := by decide +kernel
theorem dX9_init_5 : decode cX9_init 5 = .ok (.bipush 60, 2) := by decide +kernel
theorem dX9_init_7 : decode cX9_init 7 = .ok (.newarray .int, 2) := by decide +kernel
theorem dX9_init_9 : decode cX9_init 9 = .ok (.putfield 9, 3) := by decide +kernel
theorem dX9_init_12 : decode cX9_init 12 = .ok (.aload_n 0, 1) := by decide +kernel
theorem dX9_init_13 : decode cX9_init 13 = .ok (.bipush 60, 2) := by decide +kernel
theorem dX9_init_15 : decode cX9_init 15 = .ok (.newarray .int, 2) := by decide +kernel
theorem dX9_init_17 : decode cX9_init 17 = .ok (.putfield 15, 3) := by decide +kernel
theorem dX9_init_20 : decode cX9_init 20 = .ok (.aload_n 0, 1) := by decide +kernel
theorem dX9_init_21 : decode cX9_init 21 = .ok (.iconst 4, 1) := by decide +kernel
theorem dX9_init_22 : decode cX9_init 22 = .ok (.newarray .boolean, 2) := by decide +kernel
theorem dX9_init_24 : decode cX9_init 24 = .ok (.putfield 18, 3) := by decide +kernel
theorem dX9_init_27 : decode cX9_init 27 = .ok (.aload_n 0, 1) := by decide +kernel
theorem dX9_init_28 : decode cX9_init 28 = .ok (.iconst 4, 1) := by decide +kernel
theorem dX9_init_29 : decode cX9_init 29 = .ok (.newarray .int, 2) := by decide +kernel
theorem dX9_init_31 : decode cX9_init 31 = .ok (.putfield 22, 3) := by decide +kernel
theorem dX9_init_34 : decode cX9_init 34 = .ok (.aload_n 0, 1) := by decide +kernel
theorem dX9_init_35 : decode cX9_init 35 = .ok (.new 25, 3) := by decide +kernel
theorem dX9_init_38 : decode cX9_init 38 = .ok (.dup, 1) := by decide +kernel
theorem dX9_init_39 : decode cX9_init 39 = .ok (.bipush 60, 2) := by decide +kernel
theorem dX9_init_41 : decode cX9_init 41 = .ok (.invokespecial 27, 3) := by decide +kernel
theorem dX9_init_44 : decode cX9_init 44 = .ok (.putfield 30, 3) := by decide +kernel
theorem dX9_init_47 : decode cX9_init 47 = .ok (.aload_n 0, 1) := by decide +kernel
theorem dX9_init_48 : decode cX9_init 48 = .ok (.new 25, 3) := by decide +kernel
theorem dX9_init_51 : decode cX9_init 51 = .ok (.dup, 1) := by decide +kernel
theorem dX9_init_52 : decode cX9_init 52 = .ok (.iconst 4, 1) := by decide +kernel
theorem dX9_init_53 : decode cX9_init 53 = .ok (.invokespecial 27, 3) := by decide +kernel
theorem dX9_init_56 : decode cX9_init 56 = .ok (.putfield 34, 3) := by decide +kernel
theorem dX9_init_59 : decode cX9_init 59 = .ok (.aload_n 0, 1) := by decide +kernel
theorem dX9_init_60 : decode cX9_init 60 = .ok (.new 25, 3) := by decide +kernel
theorem dX9_init_63 : decode cX9_init 63 = .ok (.dup, 1) := by decide +kernel
theorem dX9_init_64 : decode cX9_init 64 = .ok (.iconst 4, 1) := by decide +kernel
theorem dX9_init_65 : decode cX9_init 65 = .ok (.invokespecial 27, 3) := by decide +kernel
theorem dX9_init_68 : decode cX9_init 68 = .ok (.putfield 37, 3) := by decide +kernel
theorem dX9_init_71 : decode cX9_init 71 = .ok (.aload_n 0, 1) := by decide +kernel
theorem dX9_init_72 : decode cX9_init 72 = .ok (.iconst 4, 1) := by decide +kernel
theorem dX9_init_73 : decode cX9_init 73 = .ok (.anewarray 25, 3) := by decide +kernel
theorem dX9_init_76 : decode cX9_init 76 = .ok (.putfield 40, 3) := by decide +kernel
theorem dX9_init_79 : decode cX9_init 79 = .ok (.aload_n 0, 1) := by decide +kernel
theorem dX9_init_80 : decode cX9_init 80 = .ok (.new 44, 3) := by decide +kernel
theorem dX9_init_83 : decode cX9_init 83 = .ok (.dup, 1) := by decide +kernel
theorem dX9_init_84 : decode cX9_init 84 = .ok (.invokespecial 46, 3) := by decide +kernel
theorem dX9_init_87 : decode cX9_init 87 = .ok (.putfield 47, 3) := by decide +kernel
theorem dX9_init_90 : decode cX9_init 90 = .ok (.aload_n 0, 1) := by decide +kernel
theorem dX9_init_91 : decode cX9_init 91 = .ok (.iload_n 1, 1) := by decide +kernel
theorem dX9_init_92 : decode cX9_init 92 = .ok (.putfield 51, 3) := by decide +kernel
theorem dX9_init_95 : decode cX9_init 95 = .ok (.iconst 0, 1) := by decide +kernel
theorem dX9_init_96 : decode cX9_init 96 = .ok (.istore_n 2, 1) := by decide +kernel
theorem dX9_init_97 : decode cX9_init 97 = .ok (.iload_n 2, 1) := by decide +kernel
theorem dX9_init_98 : decode cX9_init 98 = .ok (.iconst 4, 1) := by decide +kernel
theorem dX9_init_99 : decode cX9_init 99 = .ok (.if_icmp .ge 24, 3) := by decide +kernel
theorem dX9_init_102 : decode cX9_init 102 = .ok (.aload_n 0, 1) := by decide +kernel
theorem dX9_init_103 : decode cX9_init 103 = .ok (.getfield 40, 3) := by decide +kernel
theorem dX9_init_106 : decode cX9_init 106 = .ok (.iload_n 2, 1) := by decide +kernel
theorem dX9_init_107 : decode cX9_init 107 = .ok (.new 25, 3) := by decide +kernel
theorem dX9_init_110 : decode cX9_init 110 = .ok (.dup, 1) := by decide +kernel
theorem dX9_init_111 : decode cX9_init 111 = .ok (.bipush 15, 2) := by decide +kernel
theorem dX9_init_113 : decode cX9_init 113 = .ok (.invokespecial 27, 3) := by decide +kernel
theorem dX9_init_116 : decode cX9_init 116 = .ok (.aastore, 1) := by decide +kernel
theorem dX9_init_117 : decode cX9_init 117 = .ok (.iinc 2 1, 3) := by decide +kernel
theorem dX9_init_120 : decode cX9_init 120 = .ok (.goto (-23), 3) := by decide +kernel
theorem dX9_init_123 : decode cX9_init 123 = .ok (.return_, 1) := by decide +kernel
theorem dX9_setUp_0 : decode cX9_setUp 0 = .ok (.aload_n 0, 1) := by decide +kernel
theorem dX9_setUp_1 : decode cX9_setUp 1 = .ok (.iload_n 1, 1) := by decide +kernel
theorem dX9_setUp_2 : decode cX9_setUp 2 = .ok (.bipush 60, 2) := by decide +kernel
theorem dX9_setUp_4 : decode cX9_setUp 4 = .ok (.invokestatic 55, 3) := by decide +kernel
theorem dX9_setUp_7 : decode cX9_setUp 7 = .ok (.putfield 61, 3) := by decide +kernel
theorem dX9_setUp_10 : decode cX9_setUp 10 = .ok (.aload_n 0, 1) := by decide +kernel
theorem dX9_setUp_11 : decode cX9_setUp 11 = .ok (.aload_n 2, 1) := by decide +kernel
theorem dX9_setUp_12 : decode cX9_setUp 12 = .ok (.putfield 64, 3) := by decide +kernel
theorem dX9_setUp_15 : decode cX9_setUp 15 = .ok (.aload_n 0, 1) := by decide +kernel
theorem dX9_setUp_16 : decode cX9_setUp 16 = .ok (.sipush 200, 3) := by decide +kernel
theorem dX9_setUp_19 : decode cX9_setUp 19 = .ok (.putfield 68, 3) := by decide +kernel
theorem dX9_setUp_22 : decode cX9_setUp 22 = .ok (.aload_n 0, 1) := by decide +kernel
theorem dX9_setUp_23 : decode cX9_setUp 23 = .ok (.iconst 0, 1) := by decide +kernel
theorem dX9_setUp_24 : decode cX9_setUp 24 = .ok (.putfield 71, 3) := by decide +kernel
theorem dX9_setUp_27 : decode cX9_setUp 27 = .ok (.aload_n 0, 1) := by decide +kernel
theorem dX9_setUp_28 : decode cX9_setUp 28 = .ok (.getfield 22, 3) := by decide +kernel
theorem dX9_setUp_31 : decode cX9_setUp 31 = .ok (.iconst 0, 1) := by decide +kernel
theorem dX9_setUp_32 : decode cX9_setUp 32 = .ok (.invokestatic 74, 3) := by decide +kernel
theorem dX9_setUp_35 : decode cX9_setUp 35 = .ok (.iconst 0, 1) := by decide +kernel
theorem dX9_setUp_36 : decode cX9_setUp 36 = .ok (.istore_n 3, 1) := by decide +kernel
theorem dX9_setUp_37 : decode cX9_setUp 37 = .ok (.iload_n 3, 1) := by decide +kernel
theorem dX9_setUp_38 : decode cX9_setUp 38 = .ok (.bipush 60, 2) := by decide +kernel
theorem dX9_setUp_40 : decode cX9_setUp 40 = .ok (.if_icmp .ge 18, 3) := by decide +kernel
theorem dX9_setUp_43 : decode cX9_setUp 43 = .ok (.aload_n 0, 1) := by decide +kernel
theorem dX9_setUp_44 : decode cX9_setUp 44 = .ok (.getfield 9, 3) := by decide +kernel
theorem dX9_setUp_47 : decode cX9_setUp 47 = .ok (.iload_n 3, 1) := by decide +kernel
theorem dX9_setUp_48 : decode cX9_setUp 48 = .ok (.iload_n 3, 1) := by decide +kernel
theorem dX9_setUp_49 : decode cX9_setUp 49 = .ok (.iconst 3, 1) := by decide +kernel
theorem dX9_setUp_50 : decode cX9_setUp 50 = .ok (.iand, 1) := by decide +kernel
theorem dX9_setUp_51 : decode cX9_setUp 51 = .ok (.iastore, 1) := by decide +kernel
theorem dX9_setUp_52 : decode cX9_setUp 52 = .ok (.iinc 3 1, 3) := by decide +kernel
theorem dX9_setUp_55 : decode cX9_setUp 55 = .ok (.goto (-18), 3) := by decide +kernel
theorem dX9_setUp_58 : decode cX9_setUp 58 = .ok (.iconst 0, 1) := by decide +kernel
theorem dX9_setUp_59 : decode cX9_setUp 59 = .ok (.istore_n 3, 1) := by decide +kernel
theorem dX9_setUp_60 : decode cX9_setUp 60 = .ok (.iload_n 3, 1) := by decide +kernel
theorem dX9_setUp_61 : decode cX9_setUp 61 = .ok (.iconst 4, 1) := by decide +kernel
theorem dX9_setUp_62 : decode cX9_setUp 62 = .ok (.if_icmp .ge 16, 3) := by decide +kernel
theorem dX9_setUp_65 : decode cX9_setUp 65 = .ok (.aload_n 0, 1) := by decide +kernel
theorem dX9_setUp_66 : decode cX9_setUp 66 = .ok (.getfield 18, 3) := by decide +kernel
theorem dX9_setUp_69 : decode cX9_setUp 69 = .ok (.iload_n 3, 1) := by decide +kernel
theorem dX9_setUp_70 : decode cX9_setUp 70 = .ok (.iconst 1, 1) := by decide +kernel
theorem dX9_setUp_71 : decode cX9_setUp 71 = .ok (.bastore, 1) := by decide +kernel
theorem dX9_setUp_72 : decode cX9_setUp 72 = .ok (.iinc 3 1, 3) := by decide +kernel
theorem dX9_setUp_75 : decode cX9_setUp 75 = .ok (.goto (-15), 3) := by decide +kernel
theorem dX9_setUp_78 : decode cX9_setUp 78 = .ok (.aload_n 0, 1) := by decide +kernel
theorem dX9_setUp_79 : decode cX9_setUp 79 = .ok (.invokevirtual 80, 3) := by decide +kernel
theorem dX9_setUp_82 : decode cX9_setUp 82 = .ok (.aload_n 0, 1) := by decide +kernel
theorem dX9_setUp_83 : decode cX9_setUp 83 = .ok (.getfield 47, 3) := by decide +kernel
theorem dX9_setUp_86 : decode cX9_setUp 86 = .ok (.invokevirtual 83, 3) := by decide +kernel
theorem dX9_setUp_89 : decode cX9_setUp 89 = .ok (.return_, 1) := by decide +kernel
theorem dX9_setTo_0 : decode cX9_setTo 0 = .ok (.aload_n 0, 1) := by decide +kernel
theorem dX9_setTo_1 : decode cX9_setTo 1 = .ok (.aload_n 1, 1) := by decide +kernel
theorem dX9_setTo_2 : decode cX9_setTo 2 = .ok (.getfield 64, 3) := by decide +kernel
theorem dX9_setTo_5 : decode cX9_setTo 5 = .ok (.putfield 64, 3) := by decide +kernel
theorem dX9_setTo_8 : decode cX9_setTo 8 = .ok (.aload_n 0, 1) := by decide +kernel
theorem dX9_setTo_9 : decode cX9_setTo 9 = .ok (.aload_n 1, 1) := by decide +kernel
theorem dX9_setTo_10 : decode cX9_setTo 10 = .ok (.getfield 61, 3) := by decide +kernel
theorem dX9_setTo_13 : decode cX9_setTo 13 = .ok (.putfield 61, 3) := by decide +kernel
theorem dX9_setTo_16 : decode cX9_setTo 16 = .ok (.aload_n 0, 1) := by decide +kernel
theorem dX9_setTo_17 : decode cX9_setTo 17 = .ok (.aload_n 1, 1) := by decide +kernel
theorem dX9_setTo_18 : decode cX9_setTo 18 = .ok (.getfield 68, 3) := by decide +kernel
theorem dX9_setTo_21 : decode cX9_setTo 21 = .ok (.putfield 68, 3) := by decide +kernel
theorem dX9_setTo_24 : decode cX9_setTo 24 = .ok (.aload_n 0, 1) := by decide +kernel
theorem dX9_setTo_25 : decode cX9_setTo 25 = .ok (.aload_n 1, 1) := by decide +kernel
theorem dX9_setTo_26 : decode cX9_setTo 26 = .ok (.getfield 71, 3) := by decide +kernel
theorem dX9_setTo_29 : decode cX9_setTo 29 = .ok (.putfield 71, 3) := by decide +kernel
theorem dX9_setTo_32 : decode cX9_setTo 32 = .ok (.aload_n 1, 1) := by decide +kernel
theorem dX9_setTo_33 : decode cX9_setTo 33 = .ok (.getfield 9, 3) := by decide +kernel
theorem dX9_setTo_36 : decode cX9_setTo 36 = .ok (.aload_n 0, 1) := by decide +kernel
theorem dX9_setTo_37 : decode cX9_setTo 37 = .ok (.getfield 9, 3) := by decide +kernel
theorem dX9_setTo_40 : decode cX9_setTo 40 = .ok (.invokestatic 86, 3) := by decide +kernel
theorem dX9_setTo_43 : decode cX9_setTo 43 = .ok (.aload_n 1, 1) := by decide +kernel
theorem dX9_setTo_44 : decode cX9_setTo 44 = .ok (.getfield 15, 3) := by decide +kernel
theorem dX9_setTo_47 : decode cX9_setTo 47 = .ok (.aload_n 0, 1) := by decide +kernel
theorem dX9_setTo_48 : decode cX9_setTo 48 = .ok (.getfield 15, 3) := by decide +kernel
theorem dX9_setTo_51 : decode cX9_setTo 51 = .ok (.invokestatic 86, 3) := by decide +kernel
theorem dX9_setTo_54 : decode cX9_setTo 54 = .ok (.aload_n 1, 1) := by decide +kernel
theorem dX9_setTo_55 : decode cX9_setTo 55 = .ok (.getfield 22, 3) := by decide +kernel
theorem dX9_setTo_58 : decode cX9_setTo 58 = .ok (.aload_n 0, 1) := by decide +kernel
theorem dX9_setTo_59 : decode cX9_setTo 59 = .ok (.getfield 22, 3) := by decide +kernel
theorem dX9_setTo_62 : decode cX9_setTo 62 = .ok (.invokestatic 86, 3) := by decide +kernel
theorem dX9_setTo_65 : decode cX9_setTo 65 = .ok (.aload_n 0, 1) := by decide +kernel
theorem dX9_setTo_66 : decode cX9_setTo 66 = .ok (.getfield 30, 3) := by decide +kernel
theorem dX9_setTo_69 : decode cX9_setTo 69 = .ok (.aload_n 1, 1) := by decide +kernel
theorem dX9_setTo_70 : decode cX9_setTo 70 = .ok (.getfield 30, 3) := by decide +kernel
theorem dX9_setTo_73 : decode cX9_setTo 73 = .ok (.invokevirtual 90, 3) := by decide +kernel
theorem dX9_setTo_76 : decode cX9_setTo 76 = .ok (.aload_n 0, 1) := by decide +kernel
theorem dX9_setTo_77 : decode cX9_setTo 77 = .ok (.getfield 34, 3) := by decide +kernel
theorem dX9_setTo_80 : decode cX9_setTo 80 = .ok (.aload_n 1, 1) := by decide +kernel
theorem dX9_setTo_81 : decode cX9_setTo 81 = .ok (.getfield 34, 3) := by decide +kernel
theorem dX9_setTo_84 : decode cX9_setTo 84 = .ok (.invokevirtual 90, 3) := by decide +kernel
theorem dX9_setTo_87 : decode cX9_setTo 87 = .ok (.aload_n 0, 1) := by decide +kernel
theorem dX9_setTo_88 : decode cX9_setTo 88 = .ok (.getfield 37, 3) := by decide +kernel
theorem dX9_setTo_91 : decode cX9_setTo 91 = .ok (.aload_n 1, 1) := by decide +kernel
theorem dX9_setTo_92 : decode cX9_setTo 92 = .ok (.getfield 37, 3) := by decide +kernel
theorem dX9_setTo_95 : decode cX9_setTo 95 = .ok (.invokevirtual 90, 3) := by decide +kernel
theorem dX9_setTo_98 : decode cX9_setTo 98 = .ok (.iconst 0, 1) := by decide +kernel
theorem dX9_setTo_99 : decode cX9_setTo 99 = .ok (.istore_n 2, 1) := by decide +kernel
theorem dX9_setTo_100 : decode cX9_setTo 100 = .ok (.iload_n 2, 1) := by decide +kernel
theorem dX9_setTo_101 : decode cX9_setTo 101 = .ok (.iconst 4, 1) := by decide +kernel
theorem dX9_setTo_102 : decode cX9_setTo 102 = .ok (.if_icmp .ge 36, 3) := by decide +kernel
theorem dX9_setTo_105 : decode cX9_setTo 105 = .ok (.aload_n 0, 1) := by decide +kernel
theorem dX9_setTo_106 : decode cX9_setTo 106 = .ok (.getfield 18, 3) := by decide +kernel
theorem dX9_setTo_109 : decode cX9_setTo 109 = .ok (.iload_n 2, 1) := by decide +kernel
theorem dX9_setTo_110 : decode cX9_setTo 110 = .ok (.aload_n 1, 1) := by decide +kernel
theorem dX9_setTo_111 : decode cX9_setTo 111 = .ok (.getfield 18, 3) := by decide +kernel
theorem dX9_setTo_114 : decode cX9_setTo 114 = .ok (.iload_n 2, 1) := by decide +kernel
theorem dX9_setTo_115 : decode cX9_setTo 115 = .ok (.baload, 1) := by decide +kernel
theorem dX9_setTo_116 : decode cX9_setTo 116 = .ok (.bastore, 1) := by decide +kernel
theorem dX9_setTo_117 : decode cX9_setTo 117 = .ok (.aload_n 0, 1) := by decide +kernel
theorem dX9_setTo_118 : decode cX9_setTo 118 = .ok (.getfield 40, 3) := by decide +kernel
theorem dX9_setTo_121 : decode cX9_setTo 121 = .ok (.iload_n 2, 1) := by decide +kernel
theorem dX9_setTo_122 : decode cX9_setTo 122 = .ok (.aaload, 1) := by decide +kernel
theorem dX9_setTo_123 : decode cX9_setTo 123 = .ok (.aload_n 1, 1) := by decide +kernel
theorem dX9_setTo_124 : decode cX9_setTo 124 = .ok (.getfield 40, 3) := by decide +kernel
theorem dX9_setTo_127 : decode cX9_setTo 127 = .ok (.iload_n 2, 1) := by decide +kernel
theorem dX9_setTo_128 : decode cX9_setTo 128 = .ok (.aaload, 1) := by decide +kernel
theorem dX9_setTo_129 : decode cX9_setTo 129 = .ok (.invokevirtual 90, 3) := by decide +kernel
theorem dX9_setTo_132 : decode cX9_setTo 132 = .ok (.iinc 2 1, 3) := by decide +kernel
theorem dX9_setTo_135 : decode cX9_setTo 135 = .ok (.goto (-35), 3) := by decide +kernel
theorem dX9_setTo_138 : decode cX9_setTo 138 = .ok (.aload_n 0, 1) := by decide +kernel
theorem dX9_setTo_139 : decode cX9_setTo 139 = .ok (.getfield 47, 3) := by decide +kernel
theorem dX9_setTo_142 : decode cX9_setTo 142 = .ok (.aload_n 1, 1) := by decide +kernel
theorem dX9_setTo_143 : decode cX9_setTo 143 = .ok (.getfield 47, 3) := by decide +kernel
theorem dX9_setTo_146 : decode cX9_setTo 146 = .ok (.invokevirtual 94, 3) := by decide +kernel
theorem dX9_setTo_149 : decode cX9_setTo 149 = .ok (.return_, 1) := by decide +kernel
theorem dX9_isOn_0 : decode cX9_isOn 0 = .ok (.aload_n 0, 1) := by decide +kernel
theorem dX9_isOn_1 : decode cX9_isOn 1 = .ok (.getfield 47, 3) := by decide +kernel
theorem dX9_isOn_4 : decode cX9_isOn 4 = .ok (.getfield 97, 3) := by decide +kernel
theorem dX9_isOn_7 : decode cX9_isOn 7 = .ok (.iconst 1, 1) := by decide +kernel
theorem dX9_isOn_8 : decode cX9_isOn 8 = .ok (.if_icmp .ne 7, 3) := by decide +kernel
theorem dX9_isOn_11 : decode cX9_isOn 11 = .ok (.iconst 1, 1) := by decide +kernel
theorem dX9_isOn_12 : decode cX9_isOn 12 = .ok (.goto 4, 3) := by decide +kernel
theorem dX9_isOn_15 : decode cX9_isOn 15 = .ok (.iconst 0, 1) := by decide +kernel
theorem dX9_isOn_16 : decode cX9_isOn 16 = .ok (.ireturn, 1) := by decide +kernel
theorem dX9_hasCard_0 : decode cX9_hasCard 0 = .ok (.iload_n 1, 1) := by decide +kernel
theorem dX9_hasCard_1 : decode cX9_hasCard 1 = .ok (.ifCond .lt 21, 3) := by decide +kernel
theorem dX9_hasCard_4 : decode cX9_hasCard 4 = .ok (.iload_n 1, 1) := by decide +kernel
theorem dX9_hasCard_5 : decode cX9_hasCard 5 = .ok (.aload_n 0, 1) := by decide +kernel
theorem dX9_hasCard_6 : decode cX9_hasCard 6 = .ok (.getfield 61, 3) := by decide +kernel
theorem dX9_hasCard_9 : decode cX9_hasCard 9 = .ok (.if_icmp .ge 13, 3) := by decide +kernel
theorem dX9_hasCard_12 : decode cX9_hasCard 12 = .ok (.iload_n 1, 1) := by decide +kernel
theorem dX9_hasCard_13 : decode cX9_hasCard 13 = .ok (.bipush 60, 2) := by decide +kernel
theorem dX9_hasCard_15 : decode cX9_hasCard 15 = .ok (.if_icmp .ge 7, 3) := by decide +kernel
theorem dX9_hasCard_18 : decode cX9_hasCard 18 = .ok (.iconst 1, 1) := by decide +kernel
theorem dX9_hasCard_19 : decode cX9_hasCard 19 = .ok (.goto 4, 3) := by decide +kernel
theorem dX9_hasCard_22 : decode cX9_hasCard 22 = .ok (.iconst 0, 1) := by decide +kernel
theorem dX9_hasCard_23 : decode cX9_hasCard 23 = .ok (.ireturn, 1) := by decide +kernel
theorem dX9_isTaken_0 : decode cX9_isTaken 0 = .ok (.iload_n 1, 1) := by decide +kernel
theorem dX9_isTaken_1 : decode cX9_isTaken 1 = .ok (.invokestatic 100, 3) := by decide +kernel
theorem dX9_isTaken_4 : decode cX9_isTaken 4 = .ok (.ifCond .eq 16, 3) := by decide +kernel
theorem dX9_isTaken_7 : decode cX9_isTaken 7 = .ok (.aload_n 0, 1) := by decide +kernel
theorem dX9_isTaken_8 : decode cX9_isTaken 8 = .ok (.getfield 18, 3) := by decide +kernel
theorem dX9_isTaken_11 : decode cX9_isTaken 11 = .ok (.iload_n 1, 1) := by decide +kernel
theorem dX9_isTaken_12 : decode cX9_isTaken 12 = .ok (.baload, 1) := by decide +kernel
theorem dX9_isTaken_13 : decode cX9_isTaken 13 = .ok (.ifCond .eq 7, 3) := by decide +kernel
theorem dX9_isTaken_16 : decode cX9_isTaken 16 = .ok (.iconst 1, 1) := by decide +kernel
theorem dX9_isTaken_17 : decode cX9_isTaken 17 = .ok (.goto 4, 3) := by decide +kernel
theorem dX9_isTaken_20 : decode cX9_isTaken 20 = .ok (.iconst 0, 1) := by decide +kernel
theorem dX9_isTaken_21 : decode cX9_isTaken 21 = .ok (.ireturn, 1) := by decide +kernel
theorem dX9_handOf_0 : decode cX9_handOf 0 = .ok (.aload_n 0, 1) := by decide +kernel
theorem dX9_handOf_1 : decode cX9_handOf 1 = .ok (.getfield 40, 3) := by decide +kernel
theorem dX9_handOf_4 : decode cX9_handOf 4 = .ok (.iload_n 1, 1) := by decide +kernel
theorem dX9_handOf_5 : decode cX9_handOf 5 = .ok (.iconst 3, 1) := by decide +kernel
theorem dX9_handOf_6 : decode cX9_handOf 6 = .ok (.iand, 1) := by decide +kernel
theorem dX9_handOf_7 : decode cX9_handOf 7 = .ok (.aaload, 1) := by decide +kernel
theorem dX9_handOf_8 : decode cX9_handOf 8 = .ok (.areturn, 1) := by decide +kernel
theorem dX9_sizeBy_0 : decode cX9_sizeBy 0 = .ok (.aload_n 0, 1) := by decide +kernel
theorem dX9_sizeBy_1 : decode cX9_sizeBy 1 = .ok (.getfield 64, 3) := by decide +kernel
theorem dX9_sizeBy_4 : decode cX9_sizeBy 4 = .ok (.ifnonnull 7, 3) := by decide +kernel
theorem dX9_sizeBy_7 : decode cX9_sizeBy 7 = .ok (.iconst 0, 1) := by decide +kernel
theorem dX9_sizeBy_8 : decode cX9_sizeBy 8 = .ok (.goto 15, 3) := by decide +kernel
theorem dX9_sizeBy_11 : decode cX9_sizeBy 11 = .ok (.aload_n 0, 1) := by decide +kernel
theorem dX9_sizeBy_12 : decode cX9_sizeBy 12 = .ok (.getfield 64, 3) := by decide +kernel
theorem dX9_sizeBy_15 : decode cX9_sizeBy 15 = .ok (.aload_n 1, 1) := by decide +kernel
theorem dX9_sizeBy_16 : decode cX9_sizeBy 16 = .ok (.aload_n 0, 1) := by decide +kernel
theorem dX9_sizeBy_17 : decode cX9_sizeBy 17 = .ok (.getfield 61, 3) := by decide +kernel
theorem dX9_sizeBy_20 : decode cX9_sizeBy 20 = .ok (.invokevirtual 104, 3) := by decide +kernel
theorem dX9_sizeBy_23 : decode cX9_sizeBy 23 = .ok (.ireturn, 1) := by decide +kernel
theorem dX9_colourOf_0 : decode cX9_colourOf 0 = .ok (.iload_n 1, 1) := by decide +kernel
theorem dX9_colourOf_1 : decode cX9_colourOf 1 = .ok (.ifCond .lt 18, 3) := by decide +kernel
theorem dX9_colourOf_4 : decode cX9_colourOf 4 = .ok (.iload_n 1, 1) := by decide +kernel
theorem dX9_colourOf_5 : decode cX9_colourOf 5 = .ok (.bipush 60, 2) := by decide +kernel
theorem dX9_colourOf_7 : decode cX9_colourOf 7 = .ok (.if_icmp .ge 12, 3) := by decide +kernel
theorem dX9_colourOf_10 : decode cX9_colourOf 10 = .ok (.aload_n 0, 1) := by decide +kernel
theorem dX9_colourOf_11 : decode cX9_colourOf 11 = .ok (.getfield 9, 3) := by decide +kernel
theorem dX9_colourOf_14 : decode cX9_colourOf 14 = .ok (.iload_n 1, 1) := by decide +kernel
theorem dX9_colourOf_15 : decode cX9_colourOf 15 = .ok (.iaload, 1) := by decide +kernel
theorem dX9_colourOf_16 : decode cX9_colourOf 16 = .ok (.goto 4, 3) := by decide +kernel
theorem dX9_colourOf_19 : decode cX9_colourOf 19 = .ok (.iconst (-1), 1) := by decide +kernel
theorem dX9_colourOf_20 : decode cX9_colourOf 20 = .ok (.ireturn, 1) := by decide +kernel
theorem dX9_firstOf_0 : decode cX9_firstOf 0 = .ok (.iconst 0, 1) := by decide +kernel
theorem dX9_firstOf_1 : decode cX9_firstOf 1 = .ok (.istore_n 3, 1) := by decide +kernel
theorem dX9_firstOf_2 : decode cX9_firstOf 2 = .ok (.iload_n 3, 1) := by decide +kernel
theorem dX9_firstOf_3 : decode cX9_firstOf 3 = .ok (.aload_n 1, 1) := by decide +kernel
theorem dX9_firstOf_4 : decode cX9_firstOf 4 = .ok (.getfield 110, 3) := by decide +kernel
theorem dX9_firstOf_7 : decode cX9_firstOf 7 = .ok (.if_icmp .ge 51, 3) := by decide +kernel
theorem dX9_firstOf_10 : decode cX9_firstOf 10 = .ok (.iload_n 3, 1) := by decide +kernel
theorem dX9_firstOf_11 : decode cX9_firstOf 11 = .ok (.aload_n 1, 1) := by decide +kernel
theorem dX9_firstOf_12 : decode cX9_firstOf 12 = .ok (.getfield 113, 3) := by decide +kernel
theorem dX9_firstOf_15 : decode cX9_firstOf 15 = .ok (.arraylength, 1) := by decide +kernel
theorem dX9_firstOf_16 : decode cX9_firstOf 16 = .ok (.if_icmp .ge 42, 3) := by decide +kernel
theorem dX9_firstOf_19 : decode cX9_firstOf 19 = .ok (.aload_n 1, 1) := by decide +kernel
theorem dX9_firstOf_20 : decode cX9_firstOf 20 = .ok (.getfield 113, 3) := by decide +kernel
theorem dX9_firstOf_23 : decode cX9_firstOf 23 = .ok (.iload_n 3, 1) := by decide +kernel
theorem dX9_firstOf_24 : decode cX9_firstOf 24 = .ok (.iaload, 1) := by decide +kernel
theorem dX9_firstOf_25 : decode cX9_firstOf 25 = .ok (.istore 4, 2) := by decide +kernel
theorem dX9_firstOf_27 : decode cX9_firstOf 27 = .ok (.iload 4, 2) := by decide +kernel
theorem dX9_firstOf_29 : decode cX9_firstOf 29 = .ok (.ifCond .lt 23, 3) := by decide +kernel
theorem dX9_firstOf_32 : decode cX9_firstOf 32 = .ok (.iload 4, 2) := by decide +kernel
theorem dX9_firstOf_34 : decode cX9_firstOf 34 = .ok (.bipush 60, 2) := by decide +kernel
theorem dX9_firstOf_36 : decode cX9_firstOf 36 = .ok (.if_icmp .ge 16, 3) := by decide +kernel
theorem dX9_firstOf_39 : decode cX9_firstOf 39 = .ok (.aload_n 0, 1) := by decide +kernel
theorem dX9_firstOf_40 : decode cX9_firstOf 40 = .ok (.getfield 9, 3) := by decide +kernel
theorem dX9_firstOf_43 : decode cX9_firstOf 43 = .ok (.iload 4, 2) := by decide +kernel
theorem dX9_firstOf_45 : decode cX9_firstOf 45 = .ok (.iaload, 1) := by decide +kernel
theorem dX9_firstOf_46 : decode cX9_firstOf 46 = .ok (.iload_n 2, 1) := by decide +kernel
theorem dX9_firstOf_47 : decode cX9_firstOf 47 = .ok (.if_icmp .ne 5, 3) := by decide +kernel
theorem dX9_firstOf_50 : decode cX9_firstOf 50 = .ok (.iload_n 3, 1) := by decide +kernel
theorem dX9_firstOf_51 : decode cX9_firstOf 51 = .ok (.ireturn, 1) := by decide +kernel
theorem dX9_firstOf_52 : decode cX9_firstOf 52 = .ok (.iinc 3 1, 3) := by decide +kernel
theorem dX9_firstOf_55 : decode cX9_firstOf 55 = .ok (.goto (-53), 3) := by decide +kernel
theorem dX9_firstOf_58 : decode cX9_firstOf 58 = .ok (.iconst (-1), 1) := by decide +kernel
theorem dX9_firstOf_59 : decode cX9_firstOf 59 = .ok (.ireturn, 1) := by decide +kernel
theorem dX9_strongestOf_0 : decode cX9_strongestOf 0 = .ok (.iconst (-1), 1) := by decide +kernel
theorem dX9_strongestOf_1 : decode cX9_strongestOf 1 = .ok (.istore 4, 2) := by decide +kernel
theorem dX9_strongestOf_3 : decode cX9_strongestOf 3 = .ok (.iconst (-1), 1) := by decide +kernel
theorem dX9_strongestOf_4 : decode cX9_strongestOf 4 = .ok (.istore 5, 2) := by decide +kernel
theorem dX9_strongestOf_6 : decode cX9_strongestOf 6 = .ok (.iconst 0, 1) := by decide +kernel
theorem dX9_strongestOf_7 : decode cX9_strongestOf 7 = .ok (.istore 6, 2) := by decide +kernel
theorem dX9_strongestOf_9 : decode cX9_strongestOf 9 = .ok (.iload 6, 2) := by decide +kernel
theorem dX9_strongestOf_11 : decode cX9_strongestOf 11 = .ok (.aload_n 1, 1) := by decide +kernel
theorem dX9_strongestOf_12 : decode cX9_strongestOf 12 = .ok (.getfield 110, 3) := by decide +kernel
theorem dX9_strongestOf_15 : decode cX9_strongestOf 15 = .ok (.if_icmp .ge 93, 3) := by decide +kernel
theorem dX9_strongestOf_18 : decode cX9_strongestOf 18 = .ok (.iload 6, 2) := by decide +kernel
theorem dX9_strongestOf_20 : decode cX9_strongestOf 20 = .ok (.aload_n 1, 1) := by decide +kernel
theorem dX9_strongestOf_21 : decode cX9_strongestOf 21 = .ok (.getfield 113, 3) := by decide +kernel
theorem dX9_strongestOf_24 : decode cX9_strongestOf 24 = .ok (.arraylength, 1) := by decide +kernel
theorem dX9_strongestOf_25 : decode cX9_strongestOf 25 = .ok (.if_icmp .ge 83, 3) := by decide +kernel
theorem dX9_strongestOf_28 : decode cX9_strongestOf 28 = .ok (.aload_n 1, 1) := by decide +kernel
theorem dX9_strongestOf_29 : decode cX9_strongestOf 29 = .ok (.getfield 113, 3) := by decide +kernel
theorem dX9_strongestOf_32 : decode cX9_strongestOf 32 = .ok (.iload 6, 2) := by decide +kernel
theorem dX9_strongestOf_34 : decode cX9_strongestOf 34 = .ok (.iaload, 1) := by decide +kernel
theorem dX9_strongestOf_35 : decode cX9_strongestOf 35 = .ok (.istore 7, 2) := by decide +kernel
theorem dX9_strongestOf_37 : decode cX9_strongestOf 37 = .ok (.iload 7, 2) := by decide +kernel
theorem dX9_strongestOf_39 : decode cX9_strongestOf 39 = .ok (.ifCond .lt 36, 3) := by decide +kernel
theorem dX9_strongestOf_42 : decode cX9_strongestOf 42 = .ok (.iload 7, 2) := by decide +kernel
theorem dX9_strongestOf_44 : decode cX9_strongestOf 44 = .ok (.bipush 60, 2) := by decide +kernel
theorem dX9_strongestOf_46 : decode cX9_strongestOf 46 = .ok (.if_icmp .ge 29, 3) := by decide +kernel
theorem dX9_strongestOf_49 : decode cX9_strongestOf 49 = .ok (.aload_n 0, 1) := by decide +kernel
theorem dX9_strongestOf_50 : decode cX9_strongestOf 50 = .ok (.getfield 9, 3) := by decide +kernel
theorem dX9_strongestOf_53 : decode cX9_strongestOf 53 = .ok (.iload 7, 2) := by decide +kernel
theorem dX9_strongestOf_55 : decode cX9_strongestOf 55 = .ok (.iaload, 1) := by decide +kernel
theorem dX9_strongestOf_56 : decode cX9_strongestOf 56 = .ok (.iload_n 2, 1) := by decide +kernel
theorem dX9_strongestOf_57 : decode cX9_strongestOf 57 = .ok (.if_icmp .eq 14, 3) := by decide +kernel
theorem dX9_strongestOf_60 : decode cX9_strongestOf 60 = .ok (.aload_n 0, 1) := by decide +kernel
theorem dX9_strongestOf_61 : decode cX9_strongestOf 61 = .ok (.getfield 9, 3) := by decide +kernel
theorem dX9_strongestOf_64 : decode cX9_strongestOf 64 = .ok (.iload 7, 2) := by decide +kernel
theorem dX9_strongestOf_66 : decode cX9_strongestOf 66 = .ok (.iaload, 1) := by decide +kernel
theorem dX9_strongestOf_67 : decode cX9_strongestOf 67 = .ok (.iload_n 3, 1) := by decide +kernel
theorem dX9_strongestOf_68 : decode cX9_strongestOf 68 = .ok (.if_icmp .ne 7, 3) := by decide +kernel
theorem dX9_strongestOf_71 : decode cX9_strongestOf 71 = .ok (.iconst 1, 1) := by decide +kernel
theorem dX9_strongestOf_72 : decode cX9_strongestOf 72 = .ok (.goto 4, 3) := by decide +kernel
theorem dX9_strongestOf_75 : decode cX9_strongestOf 75 = .ok (.iconst 0, 1) := by decide +kernel
theorem dX9_strongestOf_76 : decode cX9_strongestOf 76 = .ok (.istore 8, 2) := by decide +kernel
theorem dX9_strongestOf_78 : decode cX9_strongestOf 78 = .ok (.iload 8, 2) := by decide +kernel
theorem dX9_strongestOf_80 : decode cX9_strongestOf 80 = .ok (.ifCond .eq 22, 3) := by decide +kernel
theorem dX9_strongestOf_83 : decode cX9_strongestOf 83 = .ok (.iload 7, 2) := by decide +kernel
theorem dX9_strongestOf_85 : decode cX9_strongestOf 85 = .ok (.iconst 4, 1) := by decide +kernel
theorem dX9_strongestOf_86 : decode cX9_strongestOf 86 = .ok (.idiv, 1) := by decide +kernel
theorem dX9_strongestOf_87 : decode cX9_strongestOf 87 = .ok (.iload 5, 2) := by decide +kernel
theorem dX9_strongestOf_89 : decode cX9_strongestOf 89 = .ok (.if_icmp .le 13, 3) := by decide +kernel
theorem dX9_strongestOf_92 : decode cX9_strongestOf 92 = .ok (.iload 6, 2) := by decide +kernel
theorem dX9_strongestOf_94 : decode cX9_strongestOf 94 = .ok (.istore 4, 2) := by decide +kernel
theorem dX9_strongestOf_96 : decode cX9_strongestOf 96 = .ok (.iload 7, 2) := by decide +kernel
theorem dX9_strongestOf_98 : decode cX9_strongestOf 98 = .ok (.iconst 4, 1) := by decide +kernel
theorem dX9_strongestOf_99 : decode cX9_strongestOf 99 = .ok (.idiv, 1) := by decide +kernel
theorem dX9_strongestOf_100 : decode cX9_strongestOf 100 = .ok (.istore 5, 2) := by decide +kernel
theorem dX9_strongestOf_102 : decode cX9_strongestOf 102 = .ok (.iinc 6 1, 3) := by decide +kernel
theorem dX9_strongestOf_105 : decode cX9_strongestOf 105 = .ok (.goto (-96), 3) := by decide +kernel
theorem dX9_strongestOf_108 : decode cX9_strongestOf 108 = .ok (.iload 4, 2) := by decide +kernel
theorem dX9_strongestOf_110 : decode cX9_strongestOf 110 = .ok (.ireturn, 1) := by decide +kernel
theorem dX9_cardsWon_0 : decode cX9_cardsWon 0 = .ok (.iconst 0, 1) := by decide +kernel
theorem dX9_cardsWon_1 : decode cX9_cardsWon 1 = .ok (.istore_n 2, 1) := by decide +kernel
theorem dX9_cardsWon_2 : decode cX9_cardsWon 2 = .ok (.iconst 0, 1) := by decide +kernel
theorem dX9_cardsWon_3 : decode cX9_cardsWon 3 = .ok (.istore_n 3, 1) := by decide +kernel
theorem dX9_cardsWon_4 : decode cX9_cardsWon 4 = .ok (.iload_n 3, 1) := by decide +kernel
theorem dX9_cardsWon_5 : decode cX9_cardsWon 5 = .ok (.bipush 60, 2) := by decide +kernel
theorem dX9_cardsWon_7 : decode cX9_cardsWon 7 = .ok (.if_icmp .ge 30, 3) := by decide +kernel
theorem dX9_cardsWon_10 : decode cX9_cardsWon 10 = .ok (.iload_n 2, 1) := by decide +kernel
theorem dX9_cardsWon_11 : decode cX9_cardsWon 11 = .ok (.aload_n 0, 1) := by decide +kernel
theorem dX9_cardsWon_12 : decode cX9_cardsWon 12 = .ok (.getfield 15, 3) := by decide +kernel
theorem dX9_cardsWon_15 : decode cX9_cardsWon 15 = .ok (.iload_n 3, 1) := by decide +kernel
theorem dX9_cardsWon_16 : decode cX9_cardsWon 16 = .ok (.iaload, 1) := by decide +kernel
theorem dX9_cardsWon_17 : decode cX9_cardsWon 17 = .ok (.bipush 6, 2) := by decide +kernel
theorem dX9_cardsWon_19 : decode cX9_cardsWon 19 = .ok (.iload_n 1, 1) := by decide +kernel
theorem dX9_cardsWon_20 : decode cX9_cardsWon 20 = .ok (.iadd, 1) := by decide +kernel
theorem dX9_cardsWon_21 : decode cX9_cardsWon 21 = .ok (.if_icmp .ne 7, 3) := by decide +kernel
theorem dX9_cardsWon_24 : decode cX9_cardsWon 24 = .ok (.iconst 1, 1) := by decide +kernel
theorem dX9_cardsWon_25 : decode cX9_cardsWon 25 = .ok (.goto 4, 3) := by decide +kernel
theorem dX9_cardsWon_28 : decode cX9_cardsWon 28 = .ok (.iconst 0, 1) := by decide +kernel
theorem dX9_cardsWon_29 : decode cX9_cardsWon 29 = .ok (.iadd, 1) := by decide +kernel
theorem dX9_cardsWon_30 : decode cX9_cardsWon 30 = .ok (.istore_n 2, 1) := by decide +kernel
theorem dX9_cardsWon_31 : decode cX9_cardsWon 31 = .ok (.iinc 3 1, 3) := by decide +kernel
theorem dX9_cardsWon_34 : decode cX9_cardsWon 34 = .ok (.goto (-30), 3) := by decide +kernel
theorem dX9_cardsWon_37 : decode cX9_cardsWon 37 = .ok (.iload_n 2, 1) := by decide +kernel
theorem dX9_cardsWon_38 : decode cX9_cardsWon 38 = .ok (.ireturn, 1) := by decide +kernel
theorem dX9_gatherCards_0 : decode cX9_gatherCards 0 = .ok (.aload_n 0, 1) := by decide +kernel
theorem dX9_gatherCards_1 : decode cX9_gatherCards 1 = .ok (.getfield 30, 3) := by decide +kernel
theorem dX9_gatherCards_4 : decode cX9_gatherCards 4 = .ok (.iconst 0, 1) := by decide +kernel
theorem dX9_gatherCards_5 : decode cX9_gatherCards 5 = .ok (.putfield 110, 3) := by decide +kernel
theorem dX9_gatherCards_8 : decode cX9_gatherCards 8 = .ok (.aload_n 0, 1) := by decide +kernel
theorem dX9_gatherCards_9 : decode cX9_gatherCards 9 = .ok (.getfield 34, 3) := by decide +kernel
theorem dX9_gatherCards_12 : decode cX9_gatherCards 12 = .ok (.iconst 0, 1) := by decide +kernel
theorem dX9_gatherCards_13 : decode cX9_gatherCards 13 = .ok (.putfield 110, 3) := by decide +kernel
theorem dX9_gatherCards_16 : decode cX9_gatherCards 16 = .ok (.aload_n 0, 1) := by decide +kernel
theorem dX9_gatherCards_17 : decode cX9_gatherCards 17 = .ok (.getfield 37, 3) := by decide +kernel
theorem dX9_gatherCards_20 : decode cX9_gatherCards 20 = .ok (.iconst 0, 1) := by decide +kernel
theorem dX9_gatherCards_21 : decode cX9_gatherCards 21 = .ok (.putfield 110, 3) := by decide +kernel
theorem dX9_gatherCards_24 : decode cX9_gatherCards 24 = .ok (.iconst 0, 1) := by decide +kernel
theorem dX9_gatherCards_25 : decode cX9_gatherCards 25 = .ok (.istore_n 1, 1) := by decide +kernel
theorem dX9_gatherCards_26 : decode cX9_gatherCards 26 = .ok (.iload_n 1, 1) := by decide +kernel
theorem dX9_gatherCards_27 : decode cX9_gatherCards 27 = .ok (.aload_n 0, 1) := by decide +kernel
theorem dX9_gatherCards_28 : decode cX9_gatherCards 28 = .ok (.getfield 61, 3) := by decide +kernel
theorem dX9_gatherCards_31 : decode cX9_gatherCards 31 = .ok (.if_icmp .ge 17, 3) := by decide +kernel
theorem dX9_gatherCards_34 : decode cX9_gatherCards 34 = .ok (.aload_n 0, 1) := by decide +kernel
theorem dX9_gatherCards_35 : decode cX9_gatherCards 35 = .ok (.getfield 30, 3) := by decide +kernel
theorem dX9_gatherCards_38 : decode cX9_gatherCards 38 = .ok (.iload_n 1, 1) := by decide +kernel
theorem dX9_gatherCards_39 : decode cX9_gatherCards 39 = .ok (.invokevirtual 116, 3) := by decide +kernel
theorem dX9_gatherCards_42 : decode cX9_gatherCards 42 = .ok (.iinc 1 1, 3) := by decide +kernel
theorem dX9_gatherCards_45 : decode cX9_gatherCards 45 = .ok (.goto (-19), 3) := by decide +kernel
theorem dX9_gatherCards_48 : decode cX9_gatherCards 48 = .ok (.aload_n 0, 1) := by decide +kernel
theorem dX9_gatherCards_49 : decode cX9_gatherCards 49 = .ok (.getfield 15, 3) := by decide +kernel
theorem dX9_gatherCards_52 : decode cX9_gatherCards 52 = .ok (.iconst 0, 1) := by decide +kernel
theorem dX9_gatherCards_53 : decode cX9_gatherCards 53 = .ok (.invokestatic 74, 3) := by decide +kernel
theorem dX9_gatherCards_56 : decode cX9_gatherCards 56 = .ok (.iconst 0, 1) := by decide +kernel
theorem dX9_gatherCards_57 : decode cX9_gatherCards 57 = .ok (.istore_n 1, 1) := by decide +kernel
theorem dX9_gatherCards_58 : decode cX9_gatherCards 58 = .ok (.iload_n 1, 1) := by decide +kernel
theorem dX9_gatherCards_59 : decode cX9_gatherCards 59 = .ok (.iconst 4, 1) := by decide +kernel
theorem dX9_gatherCards_60 : decode cX9_gatherCards 60 = .ok (.if_icmp .ge 19, 3) := by decide +kernel
theorem dX9_gatherCards_63 : decode cX9_gatherCards 63 = .ok (.aload_n 0, 1) := by decide +kernel
theorem dX9_gatherCards_64 : decode cX9_gatherCards 64 = .ok (.getfield 40, 3) := by decide +kernel
theorem dX9_gatherCards_67 : decode cX9_gatherCards 67 = .ok (.iload_n 1, 1) := by decide +kernel
theorem dX9_gatherCards_68 : decode cX9_gatherCards 68 = .ok (.aaload, 1) := by decide +kernel
theorem dX9_gatherCards_69 : decode cX9_gatherCards 69 = .ok (.iconst (-1), 1) := by decide +kernel
theorem dX9_gatherCards_70 : decode cX9_gatherCards 70 = .ok (.putfield 110, 3) := by decide +kernel
theorem dX9_gatherCards_73 : decode cX9_gatherCards 73 = .ok (.iinc 1 1, 3) := by decide +kernel
theorem dX9_gatherCards_76 : decode cX9_gatherCards 76 = .ok (.goto (-18), 3) := by decide +kernel
theorem dX9_gatherCards_79 : decode cX9_gatherCards 79 = .ok (.return_, 1) := by decide +kernel
theorem dX9_takeHandAway_0 : decode cX9_takeHandAway 0 = .ok (.aload_n 0, 1) := by decide +kernel
theorem dX9_takeHandAway_1 : decode cX9_takeHandAway 1 = .ok (.iload_n 1, 1) := by decide +kernel
theorem dX9_takeHandAway_2 : decode cX9_takeHandAway 2 = .ok (.invokevirtual 119, 3) := by decide +kernel
theorem dX9_takeHandAway_5 : decode cX9_takeHandAway 5 = .ok (.astore_n 2, 1) := by decide +kernel
theorem dX9_takeHandAway_6 : decode cX9_takeHandAway 6 = .ok (.iconst 0, 1) := by decide +kernel
theorem dX9_takeHandAway_7 : decode cX9_takeHandAway 7 = .ok (.istore_n 3, 1) := by decide +kernel
theorem dX9_takeHandAway_8 : decode cX9_takeHandAway 8 = .ok (.iload_n 3, 1) := by decide +kernel
theorem dX9_takeHandAway_9 : decode cX9_takeHandAway 9 = .ok (.aload_n 2, 1) := by decide +kernel
theorem dX9_takeHandAway_10 : decode cX9_takeHandAway 10 = .ok (.getfield 110, 3) := by decide +kernel
theorem dX9_takeHandAway_13 : decode cX9_takeHandAway 13 = .ok (.if_icmp .ge 31, 3) := by decide +kernel
theorem dX9_takeHandAway_16 : decode cX9_takeHandAway 16 = .ok (.aload_n 0, 1) := by decide +kernel
theorem dX9_takeHandAway_17 : decode cX9_takeHandAway 17 = .ok (.aload_n 2, 1) := by decide +kernel
theorem dX9_takeHandAway_18 : decode cX9_takeHandAway 18 = .ok (.iload_n 3, 1) := by decide +kernel
theorem dX9_takeHandAway_19 : decode cX9_takeHandAway 19 = .ok (.invokevirtual 123, 3) := by decide +kernel
theorem dX9_takeHandAway_22 : decode cX9_takeHandAway 22 = .ok (.iconst 0, 1) := by decide +kernel
theorem dX9_takeHandAway_23 : decode cX9_takeHandAway 23 = .ok (.invokevirtual 127, 3) := by decide +kernel
theorem dX9_takeHandAway_26 : decode cX9_takeHandAway 26 = .ok (.aload_n 0, 1) := by decide +kernel
theorem dX9_takeHandAway_27 : decode cX9_takeHandAway 27 = .ok (.getfield 30, 3) := by decide +kernel
theorem dX9_takeHandAway_30 : decode cX9_takeHandAway 30 = .ok (.aload_n 2, 1) := by decide +kernel
theorem dX9_takeHandAway_31 : decode cX9_takeHandAway 31 = .ok (.iload_n 3, 1) := by decide +kernel
theorem dX9_takeHandAway_32 : decode cX9_takeHandAway 32 = .ok (.invokevirtual 123, 3) := by decide +kernel
theorem dX9_takeHandAway_35 : decode cX9_takeHandAway 35 = .ok (.invokevirtual 116, 3) := by decide +kernel
theorem dX9_takeHandAway_38 : decode cX9_takeHandAway 38 = .ok (.iinc 3 1, 3) := by decide +kernel
theorem dX9_takeHandAway_41 : decode cX9_takeHandAway 41 = .ok (.goto (-33), 3) := by decide +kernel
theorem dX9_takeHandAway_44 : decode cX9_takeHandAway 44 = .ok (.aload_n 2, 1) := by decide +kernel
theorem dX9_takeHandAway_45 : decode cX9_takeHandAway 45 = .ok (.iconst (-1), 1) := by decide +kernel
theorem dX9_takeHandAway_46 : decode cX9_takeHandAway 46 = .ok (.putfield 110, 3) := by decide +kernel
theorem dX9_takeHandAway_49 : decode cX9_takeHandAway 49 = .ok (.return_, 1) := by decide +kernel
theorem dX9_moveTo_0 : decode cX9_moveTo 0 = .ok (.iload_n 1, 1) := by decide +kernel
theorem dX9_moveTo_1 : decode cX9_moveTo 1 = .ok (.ifCond .lt 16, 3) := by decide +kernel
theorem dX9_moveTo_4 : decode cX9_moveTo 4 = .ok (.iload_n 1, 1) := by decide +kernel
theorem dX9_moveTo_5 : decode cX9_moveTo 5 = .ok (.bipush 60, 2) := by decide +kernel
theorem dX9_moveTo_7 : decode cX9_moveTo 7 = .ok (.if_icmp .ge 10, 3) := by decide +kernel
theorem dX9_moveTo_10 : decode cX9_moveTo 10 = .ok (.aload_n 0, 1) := by decide +kernel
theorem dX9_moveTo_11 : decode cX9_moveTo 11 = .ok (.getfield 15, 3) := by decide +kernel
theorem dX9_moveTo_14 : decode cX9_moveTo 14 = .ok (.iload_n 1, 1) := by decide +kernel
theorem dX9_moveTo_15 : decode cX9_moveTo 15 = .ok (.iload_n 2, 1) := by decide +kernel
theorem dX9_moveTo_16 : decode cX9_moveTo 16 = .ok (.iastore, 1) := by decide +kernel
theorem dX9_moveTo_17 : decode cX9_moveTo 17 = .ok (.return_, 1) := by decide +kernel
theorem dX9_begin_0 : decode cX9_begin 0 = .ok (.aload_n 0, 1) := by decide +kernel
theorem dX9_begin_1 : decode cX9_begin 1 = .ok (.invokevirtual 80, 3) := by decide +kernel
theorem dX9_begin_4 : decode cX9_begin 4 = .ok (.iload_n 1, 1) := by decide +kernel
theorem dX9_begin_5 : decode cX9_begin 5 = .ok (.istore_n 3, 1) := by decide +kernel
theorem dX9_begin_6 : decode cX9_begin 6 = .ok (.aload_n 0, 1) := by decide +kernel
theorem dX9_begin_7 : decode cX9_begin 7 = .ok (.getfield 61, 3) := by decide +kernel
theorem dX9_begin_10 : decode cX9_begin 10 = .ok (.iconst 1, 1) := by decide +kernel
theorem dX9_begin_11 : decode cX9_begin 11 = .ok (.isub, 1) := by decide +kernel
theorem dX9_begin_12 : decode cX9_begin 12 = .ok (.istore 4, 2) := by decide +kernel
theorem dX9_begin_14 : decode cX9_begin 14 = .ok (.iload 4, 2) := by decide +kernel
theorem dX9_begin_16 : decode cX9_begin 16 = .ok (.iconst 1, 1) := by decide +kernel
theorem dX9_begin_17 : decode cX9_begin 17 = .ok (.if_icmp .lt 35, 3) := by decide +kernel
theorem dX9_begin_20 : decode cX9_begin 20 = .ok (.iload_n 3, 1) := by decide +kernel
theorem dX9_begin_21 : decode cX9_begin 21 = .ok (.ldc 131, 2) := by decide +kernel
theorem dX9_begin_23 : decode cX9_begin 23 = .ok (.imul, 1) := by decide +kernel
theorem dX9_begin_24 : decode cX9_begin 24 = .ok (.ldc 132, 2) := by decide +kernel
theorem dX9_begin_26 : decode cX9_begin 26 = .ok (.iadd, 1) := by decide +kernel
theorem dX9_begin_27 : decode cX9_begin 27 = .ok (.istore_n 3, 1) := by decide +kernel
theorem dX9_begin_28 : decode cX9_begin 28 = .ok (.aload_n 0, 1) := by decide +kernel
theorem dX9_begin_29 : decode cX9_begin 29 = .ok (.getfield 30, 3) := by decide +kernel
theorem dX9_begin_32 : decode cX9_begin 32 = .ok (.iload 4, 2) := by decide +kernel
theorem dX9_begin_34 : decode cX9_begin 34 = .ok (.iload_n 3, 1) := by decide +kernel
theorem dX9_begin_35 : decode cX9_begin 35 = .ok (.bipush 8, 2) := by decide +kernel
theorem dX9_begin_37 : decode cX9_begin 37 = .ok (.iushr, 1) := by decide +kernel
theorem dX9_begin_38 : decode cX9_begin 38 = .ok (.iload 4, 2) := by decide +kernel
theorem dX9_begin_40 : decode cX9_begin 40 = .ok (.iconst 1, 1) := by decide +kernel
theorem dX9_begin_41 : decode cX9_begin 41 = .ok (.iadd, 1) := by decide +kernel
theorem dX9_begin_42 : decode cX9_begin 42 = .ok (.irem, 1) := by decide +kernel
theorem dX9_begin_43 : decode cX9_begin 43 = .ok (.invokevirtual 133, 3) := by decide +kernel
theorem dX9_begin_46 : decode cX9_begin 46 = .ok (.iinc 4 (-1), 3) := by decide +kernel
theorem dX9_begin_49 : decode cX9_begin 49 = .ok (.goto (-35), 3) := by decide +kernel
theorem dX9_begin_52 : decode cX9_begin 52 = .ok (.aload_n 0, 1) := by decide +kernel
theorem dX9_begin_53 : decode cX9_begin 53 = .ok (.getfield 47, 3) := by decide +kernel
theorem dX9_begin_56 : decode cX9_begin 56 = .ok (.invokevirtual 83, 3) := by decide +kernel
theorem dX9_begin_59 : decode cX9_begin 59 = .ok (.aload_n 0, 1) := by decide +kernel
theorem dX9_begin_60 : decode cX9_begin 60 = .ok (.getfield 47, 3) := by decide +kernel
theorem dX9_begin_63 : decode cX9_begin 63 = .ok (.iconst 1, 1) := by decide +kernel
theorem dX9_begin_64 : decode cX9_begin 64 = .ok (.putfield 97, 3) := by decide +kernel
theorem dX9_begin_67 : decode cX9_begin 67 = .ok (.aload_n 0, 1) := by decide +kernel
theorem dX9_begin_68 : decode cX9_begin 68 = .ok (.getfield 47, 3) := by decide +kernel
theorem dX9_begin_71 : decode cX9_begin 71 = .ok (.iload_n 1, 1) := by decide +kernel
theorem dX9_begin_72 : decode cX9_begin 72 = .ok (.putfield 136, 3) := by decide +kernel
theorem dX9_begin_75 : decode cX9_begin 75 = .ok (.aload_n 0, 1) := by decide +kernel
theorem dX9_begin_76 : decode cX9_begin 76 = .ok (.getfield 47, 3) := by decide +kernel
theorem dX9_begin_79 : decode cX9_begin 79 = .ok (.iload_n 2, 1) := by decide +kernel
theorem dX9_begin_80 : decode cX9_begin 80 = .ok (.putfield 139, 3) := by decide +kernel
theorem dX9_begin_83 : decode cX9_begin 83 = .ok (.aload_n 0, 1) := by decide +kernel
theorem dX9_begin_84 : decode cX9_begin 84 = .ok (.iload_n 2, 1) := by decide +kernel
theorem dX9_begin_85 : decode cX9_begin 85 = .ok (.invokevirtual 141, 3) := by decide +kernel
theorem dX9_begin_88 : decode cX9_begin 88 = .ok (.aload_n 0, 1) := by decide +kernel
theorem dX9_begin_89 : decode cX9_begin 89 = .ok (.getfield 47, 3) := by decide +kernel
theorem dX9_begin_92 : decode cX9_begin 92 = .ok (.aload_n 0, 1) := by decide +kernel
theorem dX9_begin_93 : decode cX9_begin 93 = .ok (.iconst 0, 1) := by decide +kernel
theorem dX9_begin_94 : decode cX9_begin 94 = .ok (.invokevirtual 144, 3) := by decide +kernel
theorem dX9_begin_97 : decode cX9_begin 97 = .ok (.putfield 147, 3) := by decide +kernel
theorem dX9_begin_100 : decode cX9_begin 100 = .ok (.return_, 1) := by decide +kernel
theorem dX9_dealHands_0 : decode cX9_dealHands 0 = .ok (.iconst 0, 1) := by decide +kernel
theorem dX9_dealHands_1 : decode cX9_dealHands 1 = .ok (.istore_n 2, 1) := by decide +kernel
theorem dX9_dealHands_2 : decode cX9_dealHands 2 = .ok (.iconst 0, 1) := by decide +kernel
theorem dX9_dealHands_3 : decode cX9_dealHands 3 = .ok (.istore_n 3, 1) := by decide +kernel
theorem dX9_dealHands_4 : decode cX9_dealHands 4 = .ok (.iload_n 3, 1) := by decide +kernel
theorem dX9_dealHands_5 : decode cX9_dealHands 5 = .ok (.iconst 4, 1) := by decide +kernel
theorem dX9_dealHands_6 : decode cX9_dealHands 6 = .ok (.if_icmp .ge 88, 3) := by decide +kernel
theorem dX9_dealHands_9 : decode cX9_dealHands 9 = .ok (.aload_n 0, 1) := by decide +kernel
theorem dX9_dealHands_10 : decode cX9_dealHands 10 = .ok (.iload_n 3, 1) := by decide +kernel
theorem dX9_dealHands_11 : decode cX9_dealHands 11 = .ok (.invokevirtual 150, 3) := by decide +kernel
theorem dX9_dealHands_14 : decode cX9_dealHands 14 = .ok (.ifCond .eq 74, 3) := by decide +kernel
theorem dX9_dealHands_17 : decode cX9_dealHands 17 = .ok (.aload_n 0, 1) := by decide +kernel
theorem dX9_dealHands_18 : decode cX9_dealHands 18 = .ok (.getfield 40, 3) := by decide +kernel
theorem dX9_dealHands_21 : decode cX9_dealHands 21 = .ok (.iload_n 3, 1) := by decide +kernel
theorem dX9_dealHands_22 : decode cX9_dealHands 22 = .ok (.aaload, 1) := by decide +kernel
theorem dX9_dealHands_23 : decode cX9_dealHands 23 = .ok (.iconst 0, 1) := by decide +kernel
theorem dX9_dealHands_24 : decode cX9_dealHands 24 = .ok (.putfield 110, 3) := by decide +kernel
theorem dX9_dealHands_27 : decode cX9_dealHands 27 = .ok (.iconst 0, 1) := by decide +kernel
theorem dX9_dealHands_28 : decode cX9_dealHands 28 = .ok (.istore 4, 2) := by decide +kernel
theorem dX9_dealHands_30 : decode cX9_dealHands 30 = .ok (.iload 4, 2) := by decide +kernel
theorem dX9_dealHands_32 : decode cX9_dealHands 32 = .ok (.iload_n 1, 1) := by decide +kernel
theorem dX9_dealHands_33 : decode cX9_dealHands 33 = .ok (.if_icmp .ge 55, 3) := by decide +kernel
theorem dX9_dealHands_36 : decode cX9_dealHands 36 = .ok (.iload_n 2, 1) := by decide +kernel
theorem dX9_dealHands_37 : decode cX9_dealHands 37 = .ok (.aload_n 0, 1) := by decide +kernel
theorem dX9_dealHands_38 : decode cX9_dealHands 38 = .ok (.getfield 30, 3) := by decide +kernel
theorem dX9_dealHands_41 : decode cX9_dealHands 41 = .ok (.getfield 110, 3) := by decide +kernel
theorem dX9_dealHands_44 : decode cX9_dealHands 44 = .ok (.if_icmp .ge 44, 3) := by decide +kernel
theorem dX9_dealHands_47 : decode cX9_dealHands 47 = .ok (.aload_n 0, 1) := by decide +kernel
theorem dX9_dealHands_48 : decode cX9_dealHands 48 = .ok (.getfield 40, 3) := by decide +kernel
theorem dX9_dealHands_51 : decode cX9_dealHands 51 = .ok (.iload_n 3, 1) := by decide +kernel
theorem dX9_dealHands_52 : decode cX9_dealHands 52 = .ok (.aaload, 1) := by decide +kernel
theorem dX9_dealHands_53 : decode cX9_dealHands 53 = .ok (.aload_n 0, 1) := by decide +kernel
theorem dX9_dealHands_54 : decode cX9_dealHands 54 = .ok (.getfield 30, 3) := by decide +kernel
theorem dX9_dealHands_57 : decode cX9_dealHands 57 = .ok (.iload_n 2, 1) := by decide +kernel
theorem dX9_dealHands_58 : decode cX9_dealHands 58 = .ok (.invokevirtual 123, 3) := by decide +kernel
theorem dX9_dealHands_61 : decode cX9_dealHands 61 = .ok (.invokevirtual 116, 3) := by decide +kernel
theorem dX9_dealHands_64 : decode cX9_dealHands 64 = .ok (.aload_n 0, 1) := by decide +kernel
theorem dX9_dealHands_65 : decode cX9_dealHands 65 = .ok (.aload_n 0, 1) := by decide +kernel
theorem dX9_dealHands_66 : decode cX9_dealHands 66 = .ok (.getfield 30, 3) := by decide +kernel
theorem dX9_dealHands_69 : decode cX9_dealHands 69 = .ok (.iload_n 2, 1) := by decide +kernel
theorem dX9_dealHands_70 : decode cX9_dealHands 70 = .ok (.invokevirtual 123, 3) := by decide +kernel
theorem dX9_dealHands_73 : decode cX9_dealHands 73 = .ok (.iconst 1, 1) := by decide +kernel
theorem dX9_dealHands_74 : decode cX9_dealHands 74 = .ok (.iload_n 3, 1) := by decide +kernel
theorem dX9_dealHands_75 : decode cX9_dealHands 75 = .ok (.iadd, 1) := by decide +kernel
theorem dX9_dealHands_76 : decode cX9_dealHands 76 = .ok (.invokevirtual 127, 3) := by decide +kernel
theorem dX9_dealHands_79 : decode cX9_dealHands 79 = .ok (.iinc 2 1, 3) := by decide +kernel
theorem dX9_dealHands_82 : decode cX9_dealHands 82 = .ok (.iinc 4 1, 3) := by decide +kernel
theorem dX9_dealHands_85 : decode cX9_dealHands 85 = .ok (.goto (-55), 3) := by decide +kernel
theorem dX9_dealHands_88 : decode cX9_dealHands 88 = .ok (.iinc 3 1, 3) := by decide +kernel
theorem dX9_dealHands_91 : decode cX9_dealHands 91 = .ok (.goto (-87), 3) := by decide +kernel
theorem dX9_dealHands_94 : decode cX9_dealHands 94 = .ok (.aload_n 0, 1) := by decide +kernel
theorem dX9_dealHands_95 : decode cX9_dealHands 95 = .ok (.getfield 30, 3) := by decide +kernel
theorem dX9_dealHands_98 : decode cX9_dealHands 98 = .ok (.getfield 110, 3) := by decide +kernel
theorem dX9_dealHands_101 : decode cX9_dealHands 101 = .ok (.iload_n 2, 1) := by decide +kernel
theorem dX9_dealHands_102 : decode cX9_dealHands 102 = .ok (.isub, 1) := by decide +kernel
theorem dX9_dealHands_103 : decode cX9_dealHands 103 = .ok (.istore_n 3, 1) := by decide +kernel
theorem dX9_dealHands_104 : decode cX9_dealHands 104 = .ok (.iconst 0, 1) := by decide +kernel
theorem dX9_dealHands_105 : decode cX9_dealHands 105 = .ok (.istore 4, 2) := by decide +kernel
theorem dX9_dealHands_107 : decode cX9_dealHands 107 = .ok (.iload 4, 2) := by decide +kernel
theorem dX9_dealHands_109 : decode cX9_dealHands 109 = .ok (.iload_n 3, 1) := by decide +kernel
theorem dX9_dealHands_110 : decode cX9_dealHands 110 = .ok (.if_icmp .ge 22, 3) := by decide +kernel
theorem dX9_dealHands_113 : decode cX9_dealHands 113 = .ok (.aload_n 0, 1) := by decide +kernel
theorem dX9_dealHands_114 : decode cX9_dealHands 114 = .ok (.getfield 30, 3) := by decide +kernel
theorem dX9_dealHands_117 : decode cX9_dealHands 117 = .ok (.iload 4, 2) := by decide +kernel
theorem dX9_dealHands_119 : decode cX9_dealHands 119 = .ok (.iload_n 2, 1) := by decide +kernel
theorem dX9_dealHands_120 : decode cX9_dealHands 120 = .ok (.iload 4, 2) := by decide +kernel
theorem dX9_dealHands_122 : decode cX9_dealHands 122 = .ok (.iadd, 1) := by decide +kernel
theorem dX9_dealHands_123 : decode cX9_dealHands 123 = .ok (.invokevirtual 133, 3) := by decide +kernel
theorem dX9_dealHands_126 : decode cX9_dealHands 126 = .ok (.iinc 4 1, 3) := by decide +kernel
theorem dX9_dealHands_129 : decode cX9_dealHands 129 = .ok (.goto (-22), 3) := by decide +kernel
theorem dX9_dealHands_132 : decode cX9_dealHands 132 = .ok (.aload_n 0, 1) := by decide +kernel
theorem dX9_dealHands_133 : decode cX9_dealHands 133 = .ok (.getfield 30, 3) := by decide +kernel
theorem dX9_dealHands_136 : decode cX9_dealHands 136 = .ok (.iload_n 3, 1) := by decide +kernel
theorem dX9_dealHands_137 : decode cX9_dealHands 137 = .ok (.putfield 110, 3) := by decide +kernel
theorem dX9_dealHands_140 : decode cX9_dealHands 140 = .ok (.return_, 1) := by decide +kernel
theorem dX9_canLay_0 : decode cX9_canLay 0 = .ok (.aload_n 0, 1) := by decide +kernel
theorem dX9_canLay_1 : decode cX9_canLay 1 = .ok (.iload_n 1, 1) := by decide +kernel
theorem dX9_canLay_2 : decode cX9_canLay 2 = .ok (.invokevirtual 119, 3) := by decide +kernel
theorem dX9_canLay_5 : decode cX9_canLay 5 = .ok (.astore_n 2, 1) := by decide +kernel
theorem dX9_canLay_6 : decode cX9_canLay 6 = .ok (.iconst 0, 1) := by decide +kernel
theorem dX9_canLay_7 : decode cX9_canLay 7 = .ok (.istore_n 3, 1) := by decide +kernel
theorem dX9_canLay_8 : decode cX9_canLay 8 = .ok (.iload_n 3, 1) := by decide +kernel
theorem dX9_canLay_9 : decode cX9_canLay 9 = .ok (.aload_n 2, 1) := by decide +kernel
theorem dX9_canLay_10 : decode cX9_canLay 10 = .ok (.getfield 110, 3) := by decide +kernel
theorem dX9_canLay_13 : decode cX9_canLay 13 = .ok (.if_icmp .ge 25, 3) := by decide +kernel
theorem dX9_canLay_16 : decode cX9_canLay 16 = .ok (.aload_n 0, 1) := by decide +kernel
theorem dX9_canLay_17 : decode cX9_canLay 17 = .ok (.aload_n 2, 1) := by decide +kernel
theorem dX9_canLay_18 : decode cX9_canLay 18 = .ok (.iload_n 3, 1) := by decide +kernel
theorem dX9_canLay_19 : decode cX9_canLay 19 = .ok (.invokevirtual 123, 3) := by decide +kernel
theorem dX9_canLay_22 : decode cX9_canLay 22 = .ok (.invokevirtual 153, 3) := by decide +kernel
theorem dX9_canLay_25 : decode cX9_canLay 25 = .ok (.bipush 6, 2) := by decide +kernel
theorem dX9_canLay_27 : decode cX9_canLay 27 = .ok (.if_icmp .eq 5, 3) := by decide +kernel
theorem dX9_canLay_30 : decode cX9_canLay 30 = .ok (.iconst 1, 1) := by decide +kernel
theorem dX9_canLay_31 : decode cX9_canLay 31 = .ok (.ireturn, 1) := by decide +kernel
theorem dX9_canLay_32 : decode cX9_canLay 32 = .ok (.iinc 3 1, 3) := by decide +kernel
theorem dX9_canLay_35 : decode cX9_canLay 35 = .ok (.goto (-27), 3) := by decide +kernel
theorem dX9_canLay_38 : decode cX9_canLay 38 = .ok (.iconst 0, 1) := by decide +kernel
theorem dX9_canLay_39 : decode cX9_canLay 39 = .ok (.ireturn, 1) := by decide +kernel
theorem dX9_nextAble_0 : decode cX9_nextAble 0 = .ok (.iconst 0, 1) := by decide +kernel
theorem dX9_nextAble_1 : decode cX9_nextAble 1 = .ok (.istore_n 2, 1) := by decide +kernel
theorem dX9_nextAble_2 : decode cX9_nextAble 2 = .ok (.iload_n 2, 1) := by decide +kernel
theorem dX9_nextAble_3 : decode cX9_nextAble 3 = .ok (.iconst 4, 1) := by decide +kernel
theorem dX9_nextAble_4 : decode cX9_nextAble 4 = .ok (.if_icmp .ge 37, 3) := by decide +kernel
theorem dX9_nextAble_7 : decode cX9_nextAble 7 = .ok (.iload_n 1, 1) := by decide +kernel
theorem dX9_nextAble_8 : decode cX9_nextAble 8 = .ok (.iload_n 2, 1) := by decide +kernel
theorem dX9_nextAble_9 : decode cX9_nextAble 9 = .ok (.iadd, 1) := by decide +kernel
theorem dX9_nextAble_10 : decode cX9_nextAble 10 = .ok (.iconst 3, 1) := by decide +kernel
theorem dX9_nextAble_11 : decode cX9_nextAble 11 = .ok (.iand, 1) := by decide +kernel
theorem dX9_nextAble_12 : decode cX9_nextAble 12 = .ok (.istore_n 3, 1) := by decide +kernel
theorem dX9_nextAble_13 : decode cX9_nextAble 13 = .ok (.aload_n 0, 1) := by decide +kernel
theorem dX9_nextAble_14 : decode cX9_nextAble 14 = .ok (.getfield 37, 3) := by decide +kernel
theorem dX9_nextAble_17 : decode cX9_nextAble 17 = .ok (.iload_n 3, 1) := by decide +kernel
theorem dX9_nextAble_18 : decode cX9_nextAble 18 = .ok (.invokevirtual 156, 3) := by decide +kernel
theorem dX9_nextAble_21 : decode cX9_nextAble 21 = .ok (.iconst (-1), 1) := by decide +kernel
theorem dX9_nextAble_22 : decode cX9_nextAble 22 = .ok (.if_icmp .ne 13, 3) := by decide +kernel
theorem dX9_nextAble_25 : decode cX9_nextAble 25 = .ok (.aload_n 0, 1) := by decide +kernel
theorem dX9_nextAble_26 : decode cX9_nextAble 26 = .ok (.iload_n 3, 1) := by decide +kernel
theorem dX9_nextAble_27 : decode cX9_nextAble 27 = .ok (.invokevirtual 159, 3) := by decide +kernel
theorem dX9_nextAble_30 : decode cX9_nextAble 30 = .ok (.ifCond .eq 5, 3) := by decide +kernel
theorem dX9_nextAble_33 : decode cX9_nextAble 33 = .ok (.iload_n 3, 1) := by decide +kernel
theorem dX9_nextAble_34 : decode cX9_nextAble 34 = .ok (.ireturn, 1) := by decide +kernel
theorem dX9_nextAble_35 : decode cX9_nextAble 35 = .ok (.iinc 2 1, 3) := by decide +kernel
theorem dX9_nextAble_38 : decode cX9_nextAble 38 = .ok (.goto (-36), 3) := by decide +kernel
theorem dX9_nextAble_41 : decode cX9_nextAble 41 = .ok (.iconst (-1), 1) := by decide +kernel
theorem dX9_nextAble_42 : decode cX9_nextAble 42 = .ok (.ireturn, 1) := by decide +kernel
theorem dX9_isBegun_0 : decode cX9_isBegun 0 = .ok (.aload_n 0, 1) := by decide +kernel
theorem dX9_isBegun_1 : decode cX9_isBegun 1 = .ok (.getfield 47, 3) := by decide +kernel
theorem dX9_isBegun_4 : decode cX9_isBegun 4 = .ok (.getfield 162, 3) := by decide +kernel
theorem dX9_isBegun_7 : decode cX9_isBegun 7 = .ok (.ifCond .gt 13, 3) := by decide +kernel
theorem dX9_isBegun_10 : decode cX9_isBegun 10 = .ok (.aload_n 0, 1) := by decide +kernel
theorem dX9_isBegun_11 : decode cX9_isBegun 11 = .ok (.getfield 34, 3) := by decide +kernel
theorem dX9_isBegun_14 : decode cX9_isBegun 14 = .ok (.getfield 110, 3) := by decide +kernel
theorem dX9_isBegun_17 : decode cX9_isBegun 17 = .ok (.ifCond .le 7, 3) := by decide +kernel
theorem dX9_isBegun_20 : decode cX9_isBegun 20 = .ok (.iconst 1, 1) := by decide +kernel
theorem dX9_isBegun_21 : decode cX9_isBegun 21 = .ok (.goto 4, 3) := by decide +kernel
theorem dX9_isBegun_24 : decode cX9_isBegun 24 = .ok (.iconst 0, 1) := by decide +kernel
theorem dX9_isBegun_25 : decode cX9_isBegun 25 = .ok (.ireturn, 1) := by decide +kernel
theorem dX9_refusalToGive_0 : decode cX9_refusalToGive 0 = .ok (.aload_n 0, 1) := by decide +kernel
theorem dX9_refusalToGive_1 : decode cX9_refusalToGive 1 = .ok (.iload_n 2, 1) := by decide +kernel
theorem dX9_refusalToGive_2 : decode cX9_refusalToGive 2 = .ok (.invokevirtual 119, 3) := by decide +kernel
theorem dX9_refusalToGive_5 : decode cX9_refusalToGive 5 = .ok (.getfield 110, 3) := by decide +kernel
theorem dX9_refusalToGive_8 : decode cX9_refusalToGive 8 = .ok (.aload_n 0, 1) := by decide +kernel
theorem dX9_refusalToGive_9 : decode cX9_refusalToGive 9 = .ok (.aload_n 1, 1) := by decide +kernel
theorem dX9_refusalToGive_10 : decode cX9_refusalToGive 10 = .ok (.invokevirtual 165, 3) := by decide +kernel
theorem dX9_refusalToGive_13 : decode cX9_refusalToGive 13 = .ok (.if_icmp .lt 6, 3) := by decide +kernel
theorem dX9_refusalToGive_16 : decode cX9_refusalToGive 16 = .ok (.bipush (-3), 2) := by decide +kernel
theorem dX9_refusalToGive_18 : decode cX9_refusalToGive 18 = .ok (.ireturn, 1) := by decide +kernel
theorem dX9_refusalToGive_19 : decode cX9_refusalToGive 19 = .ok (.aload_n 0, 1) := by decide +kernel
theorem dX9_refusalToGive_20 : decode cX9_refusalToGive 20 = .ok (.invokevirtual 169, 3) := by decide +kernel
theorem dX9_refusalToGive_23 : decode cX9_refusalToGive 23 = .ok (.ifCond .eq 35, 3) := by decide +kernel
theorem dX9_refusalToGive_26 : decode cX9_refusalToGive 26 = .ok (.aload_n 0, 1) := by decide +kernel
theorem dX9_refusalToGive_27 : decode cX9_refusalToGive 27 = .ok (.invokevirtual 173, 3) := by decide +kernel
theorem dX9_refusalToGive_30 : decode cX9_refusalToGive 30 = .ok (.ifCond .ne 28, 3) := by decide +kernel
theorem dX9_refusalToGive_33 : decode cX9_refusalToGive 33 = .ok (.aload_n 0, 1) := by decide +kernel
theorem dX9_refusalToGive_34 : decode cX9_refusalToGive 34 = .ok (.iload_n 2, 1) := by decide +kernel
theorem dX9_refusalToGive_35 : decode cX9_refusalToGive 35 = .ok (.invokevirtual 150, 3) := by decide +kernel
theorem dX9_refusalToGive_38 : decode cX9_refusalToGive 38 = .ok (.ifCond .eq 20, 3) := by decide +kernel
theorem dX9_refusalToGive_41 : decode cX9_refusalToGive 41 = .ok (.aload_n 0, 1) := by decide +kernel
theorem dX9_refusalToGive_42 : decode cX9_refusalToGive 42 = .ok (.iload_n 3, 1) := by decide +kernel
theorem dX9_refusalToGive_43 : decode cX9_refusalToGive 43 = .ok (.invokevirtual 176, 3) := by decide +kernel
theorem dX9_refusalToGive_46 : decode cX9_refusalToGive 46 = .ok (.ifCond .eq 12, 3) := by decide +kernel
theorem dX9_refusalToGive_49 : decode cX9_refusalToGive 49 = .ok (.aload_n 0, 1) := by decide +kernel
theorem dX9_refusalToGive_50 : decode cX9_refusalToGive 50 = .ok (.getfield 15, 3) := by decide +kernel
theorem dX9_refusalToGive_53 : decode cX9_refusalToGive 53 = .ok (.iload_n 3, 1) := by decide +kernel
theorem dX9_refusalToGive_54 : decode cX9_refusalToGive 54 = .ok (.iaload, 1) := by decide +kernel
theorem dX9_refusalToGive_55 : decode cX9_refusalToGive 55 = .ok (.ifCond .eq 7, 3) := by decide +kernel
theorem dX9_refusalToGive_58 : decode cX9_refusalToGive 58 = .ok (.iconst 1, 1) := by decide +kernel
theorem dX9_refusalToGive_59 : decode cX9_refusalToGive 59 = .ok (.goto 4, 3) := by decide +kernel
theorem dX9_refusalToGive_62 : decode cX9_refusalToGive 62 = .ok (.iconst 0, 1) := by decide +kernel
theorem dX9_refusalToGive_63 : decode cX9_refusalToGive 63 = .ok (.istore 4, 2) := by decide +kernel
theorem dX9_refusalToGive_65 : decode cX9_refusalToGive 65 = .ok (.iload 4, 2) := by decide +kernel
theorem dX9_refusalToGive_67 : decode cX9_refusalToGive 67 = .ok (.ifCond .eq 8, 3) := by decide +kernel
theorem dX9_refusalToGive_70 : decode cX9_refusalToGive 70 = .ok (.bipush (-4), 2) := by decide +kernel
theorem dX9_refusalToGive_72 : decode cX9_refusalToGive 72 = .ok (.goto 4, 3) := by decide +kernel
theorem dX9_refusalToGive_75 : decode cX9_refusalToGive 75 = .ok (.iconst 0, 1) := by decide +kernel
theorem dX9_refusalToGive_76 : decode cX9_refusalToGive 76 = .ok (.ireturn, 1) := by decide +kernel
theorem dX9_giveCard_0 : decode cX9_giveCard 0 = .ok (.aload_n 0, 1) := by decide +kernel
theorem dX9_giveCard_1 : decode cX9_giveCard 1 = .ok (.getfield 30, 3) := by decide +kernel
theorem dX9_giveCard_4 : decode cX9_giveCard 4 = .ok (.aload_n 0, 1) := by decide +kernel
theorem dX9_giveCard_5 : decode cX9_giveCard 5 = .ok (.getfield 30, 3) := by decide +kernel
theorem dX9_giveCard_8 : decode cX9_giveCard 8 = .ok (.iload_n 2, 1) := by decide +kernel
theorem dX9_giveCard_9 : decode cX9_giveCard 9 = .ok (.invokevirtual 156, 3) := by decide +kernel
theorem dX9_giveCard_12 : decode cX9_giveCard 12 = .ok (.invokevirtual 179, 3) := by decide +kernel
theorem dX9_giveCard_15 : decode cX9_giveCard 15 = .ok (.pop, 1) := by decide +kernel
theorem dX9_giveCard_16 : decode cX9_giveCard 16 = .ok (.aload_n 0, 1) := by decide +kernel
theorem dX9_giveCard_17 : decode cX9_giveCard 17 = .ok (.iload_n 1, 1) := by decide +kernel
theorem dX9_giveCard_18 : decode cX9_giveCard 18 = .ok (.invokevirtual 119, 3) := by decide +kernel
theorem dX9_giveCard_21 : decode cX9_giveCard 21 = .ok (.iload_n 2, 1) := by decide +kernel
theorem dX9_giveCard_22 : decode cX9_giveCard 22 = .ok (.invokevirtual 116, 3) := by decide +kernel
theorem dX9_giveCard_25 : decode cX9_giveCard 25 = .ok (.aload_n 0, 1) := by decide +kernel
theorem dX9_giveCard_26 : decode cX9_giveCard 26 = .ok (.iload_n 2, 1) := by decide +kernel
theorem dX9_giveCard_27 : decode cX9_giveCard 27 = .ok (.iconst 1, 1) := by decide +kernel
theorem dX9_giveCard_28 : decode cX9_giveCard 28 = .ok (.iload_n 1, 1) := by decide +kernel
theorem dX9_giveCard_29 : decode cX9_giveCard 29 = .ok (.iadd, 1) := by decide +kernel
theorem dX9_giveCard_30 : decode cX9_giveCard 30 = .ok (.invokevirtual 127, 3) := by decide +kernel
theorem dX9_giveCard_33 : decode cX9_giveCard 33 = .ok (.aload_n 0, 1) := by decide +kernel
theorem dX9_giveCard_34 : decode cX9_giveCard 34 = .ok (.getfield 47, 3) := by decide +kernel
theorem dX9_giveCard_37 : decode cX9_giveCard 37 = .ok (.aload_n 0, 1) := by decide +kernel
theorem dX9_giveCard_38 : decode cX9_giveCard 38 = .ok (.iconst 0, 1) := by decide +kernel
theorem dX9_giveCard_39 : decode cX9_giveCard 39 = .ok (.invokevirtual 144, 3) := by decide +kernel
theorem dX9_giveCard_42 : decode cX9_giveCard 42 = .ok (.putfield 147, 3) := by decide +kernel
theorem dX9_giveCard_45 : decode cX9_giveCard 45 = .ok (.aload_n 0, 1) := by decide +kernel
theorem dX9_giveCard_46 : decode cX9_giveCard 46 = .ok (.iload_n 1, 1) := by decide +kernel
theorem dX9_giveCard_47 : decode cX9_giveCard 47 = .ok (.invokevirtual 119, 3) := by decide +kernel
theorem dX9_giveCard_50 : decode cX9_giveCard 50 = .ok (.getfield 110, 3) := by decide +kernel
theorem dX9_giveCard_53 : decode cX9_giveCard 53 = .ok (.ireturn, 1) := by decide +kernel
theorem dX9_refusalToBid_0 : decode cX9_refusalToBid 0 = .ok (.iload_n 3, 1) := by decide +kernel
theorem dX9_refusalToBid_1 : decode cX9_refusalToBid 1 = .ok (.iconst 1, 1) := by decide +kernel
theorem dX9_refusalToBid_2 : decode cX9_refusalToBid 2 = .ok (.if_icmp .lt 23, 3) := by decide +kernel
theorem dX9_refusalToBid_5 : decode cX9_refusalToBid 5 = .ok (.iload_n 3, 1) := by decide +kernel
theorem dX9_refusalToBid_6 : decode cX9_refusalToBid 6 = .ok (.aload_n 0, 1) := by decide +kernel
theorem dX9_refusalToBid_7 : decode cX9_refusalToBid 7 = .ok (.aload_n 1, 1) := by decide +kernel
theorem dX9_refusalToBid_8 : decode cX9_refusalToBid 8 = .ok (.invokevirtual 165, 3) := by decide +kernel
theorem dX9_refusalToBid_11 : decode cX9_refusalToBid 11 = .ok (.if_icmp .gt 14, 3) := by decide +kernel
theorem dX9_refusalToBid_14 : decode cX9_refusalToBid 14 = .ok (.iload 4, 2) := by decide +kernel
theorem dX9_refusalToBid_16 : decode cX9_refusalToBid 16 = .ok (.ifCond .lt 9, 3) := by decide +kernel
theorem dX9_refusalToBid_19 : decode cX9_refusalToBid 19 = .ok (.iload 4, 2) := by decide +kernel
theorem dX9_refusalToBid_21 : decode cX9_refusalToBid 21 = .ok (.iconst 3, 1) := by decide +kernel
theorem dX9_refusalToBid_22 : decode cX9_refusalToBid 22 = .ok (.if_icmp .le 6, 3) := by decide +kernel
theorem dX9_refusalToBid_25 : decode cX9_refusalToBid 25 = .ok (.bipush (-3), 2) := by decide +kernel
theorem dX9_refusalToBid_27 : decode cX9_refusalToBid 27 = .ok (.ireturn, 1) := by decide +kernel
theorem dX9_refusalToBid_28 : decode cX9_refusalToBid 28 = .ok (.aload_n 0, 1) := by decide +kernel
theorem dX9_refusalToBid_29 : decode cX9_refusalToBid 29 = .ok (.getfield 64, 3) := by decide +kernel
theorem dX9_refusalToBid_32 : decode cX9_refusalToBid 32 = .ok (.ifnull 18, 3) := by decide +kernel
theorem dX9_refusalToBid_35 : decode cX9_refusalToBid 35 = .ok (.aload_n 0, 1) := by decide +kernel
theorem dX9_refusalToBid_36 : decode cX9_refusalToBid 36 = .ok (.getfield 64, 3) := by decide +kernel
theorem dX9_refusalToBid_39 : decode cX9_refusalToBid 39 = .ok (.getfield 182, 3) := by decide +kernel
theorem dX9_refusalToBid_42 : decode cX9_refusalToBid 42 = .ok (.iconst 3, 1) := by decide +kernel
theorem dX9_refusalToBid_43 : decode cX9_refusalToBid 43 = .ok (.if_icmp .ne 7, 3) := by decide +kernel
theorem dX9_refusalToBid_46 : decode cX9_refusalToBid 46 = .ok (.iconst 1, 1) := by decide +kernel
theorem dX9_refusalToBid_47 : decode cX9_refusalToBid 47 = .ok (.goto 4, 3) := by decide +kernel
theorem dX9_refusalToBid_50 : decode cX9_refusalToBid 50 = .ok (.iconst 0, 1) := by decide +kernel
theorem dX9_refusalToBid_51 : decode cX9_refusalToBid 51 = .ok (.istore 5, 2) := by decide +kernel
theorem dX9_refusalToBid_53 : decode cX9_refusalToBid 53 = .ok (.iload 5, 2) := by decide +kernel
theorem dX9_refusalToBid_55 : decode cX9_refusalToBid 55 = .ok (.ifCond .eq 38, 3) := by decide +kernel
theorem dX9_refusalToBid_58 : decode cX9_refusalToBid 58 = .ok (.aload_n 0, 1) := by decide +kernel
theorem dX9_refusalToBid_59 : decode cX9_refusalToBid 59 = .ok (.invokevirtual 169, 3) := by decide +kernel
theorem dX9_refusalToBid_62 : decode cX9_refusalToBid 62 = .ok (.ifCond .eq 31, 3) := by decide +kernel
theorem dX9_refusalToBid_65 : decode cX9_refusalToBid 65 = .ok (.aload_n 0, 1) := by decide +kernel
theorem dX9_refusalToBid_66 : decode cX9_refusalToBid 66 = .ok (.invokevirtual 173, 3) := by decide +kernel
theorem dX9_refusalToBid_69 : decode cX9_refusalToBid 69 = .ok (.ifCond .ne 24, 3) := by decide +kernel
theorem dX9_refusalToBid_72 : decode cX9_refusalToBid 72 = .ok (.aload_n 0, 1) := by decide +kernel
theorem dX9_refusalToBid_73 : decode cX9_refusalToBid 73 = .ok (.iload_n 2, 1) := by decide +kernel
theorem dX9_refusalToBid_74 : decode cX9_refusalToBid 74 = .ok (.invokevirtual 150, 3) := by decide +kernel
theorem dX9_refusalToBid_77 : decode cX9_refusalToBid 77 = .ok (.ifCond .eq 16, 3) := by decide +kernel
theorem dX9_refusalToBid_80 : decode cX9_refusalToBid 80 = .ok (.aload_n 0, 1) := by decide +kernel
theorem dX9_refusalToBid_81 : decode cX9_refusalToBid 81 = .ok (.getfield 47, 3) := by decide +kernel
theorem dX9_refusalToBid_84 : decode cX9_refusalToBid 84 = .ok (.iload_n 3, 1) := by decide +kernel
theorem dX9_refusalToBid_85 : decode cX9_refusalToBid 85 = .ok (.iload 4, 2) := by decide +kernel
theorem dX9_refusalToBid_87 : decode cX9_refusalToBid 87 = .ok (.invokevirtual 185, 3) := by decide +kernel
theorem dX9_refusalToBid_90 : decode cX9_refusalToBid 90 = .ok (.ifCond .ne 7, 3) := by decide +kernel
theorem dX9_refusalToBid_93 : decode cX9_refusalToBid 93 = .ok (.iconst 1, 1) := by decide +kernel
theorem dX9_refusalToBid_94 : decode cX9_refusalToBid 94 = .ok (.goto 4, 3) := by decide +kernel
theorem dX9_refusalToBid_97 : decode cX9_refusalToBid 97 = .ok (.iconst 0, 1) := by decide +kernel
theorem dX9_refusalToBid_98 : decode cX9_refusalToBid 98 = .ok (.istore 6, 2) := by decide +kernel
theorem dX9_refusalToBid_100 : decode cX9_refusalToBid 100 = .ok (.iload 6, 2) := by decide +kernel
theorem dX9_refusalToBid_102 : decode cX9_refusalToBid 102 = .ok (.ifCond .eq 8, 3) := by decide +kernel
theorem dX9_refusalToBid_105 : decode cX9_refusalToBid 105 = .ok (.bipush (-4), 2) := by decide +kernel
theorem dX9_refusalToBid_107 : decode cX9_refusalToBid 107 = .ok (.goto 4, 3) := by decide +kernel
theorem dX9_refusalToBid_110 : decode cX9_refusalToBid 110 = .ok (.iconst 0, 1) := by decide +kernel
theorem dX9_refusalToBid_111 : decode cX9_refusalToBid 111 = .ok (.ireturn, 1) := by decide +kernel
theorem dX9_canDouble_0 : decode cX9_canDouble 0 = .ok (.aload_n 0, 1) := by decide +kernel
theorem dX9_canDouble_1 : decode cX9_canDouble 1 = .ok (.getfield 47, 3) := by decide +kernel
theorem dX9_canDouble_4 : decode cX9_canDouble 4 = .ok (.getfield 189, 3) := by decide +kernel
theorem dX9_canDouble_7 : decode cX9_canDouble 7 = .ok (.iconst 1, 1) := by decide +kernel
theorem dX9_canDouble_8 : decode cX9_canDouble 8 = .ok (.iand, 1) := by decide +kernel
theorem dX9_canDouble_9 : decode cX9_canDouble 9 = .ok (.iload_n 1, 1) := by decide +kernel
theorem dX9_canDouble_10 : decode cX9_canDouble 10 = .ok (.iconst 1, 1) := by decide +kernel
theorem dX9_canDouble_11 : decode cX9_canDouble 11 = .ok (.iand, 1) := by decide +kernel
theorem dX9_canDouble_12 : decode cX9_canDouble 12 = .ok (.if_icmp .ne 7, 3) := by decide +kernel
theorem dX9_canDouble_15 : decode cX9_canDouble 15 = .ok (.iconst 1, 1) := by decide +kernel
theorem dX9_canDouble_16 : decode cX9_canDouble 16 = .ok (.goto 4, 3) := by decide +kernel
theorem dX9_canDouble_19 : decode cX9_canDouble 19 = .ok (.iconst 0, 1) := by decide +kernel
theorem dX9_canDouble_20 : decode cX9_canDouble 20 = .ok (.istore_n 2, 1) := by decide +kernel
theorem dX9_canDouble_21 : decode cX9_canDouble 21 = .ok (.aload_n 0, 1) := by decide +kernel
theorem dX9_canDouble_22 : decode cX9_canDouble 22 = .ok (.getfield 47, 3) := by decide +kernel
theorem dX9_canDouble_25 : decode cX9_canDouble 25 = .ok (.getfield 192, 3) := by decide +kernel
theorem dX9_canDouble_28 : decode cX9_canDouble 28 = .ok (.ifCond .ne 7, 3) := by decide +kernel
theorem dX9_canDouble_31 : decode cX9_canDouble 31 = .ok (.iload_n 2, 1) := by decide +kernel
theorem dX9_canDouble_32 : decode cX9_canDouble 32 = .ok (.ifCond .eq 18, 3) := by decide +kernel
theorem dX9_canDouble_35 : decode cX9_canDouble 35 = .ok (.aload_n 0, 1) := by decide +kernel
theorem dX9_canDouble_36 : decode cX9_canDouble 36 = .ok (.getfield 47, 3) := by decide +kernel
theorem dX9_canDouble_39 : decode cX9_canDouble 39 = .ok (.getfield 192, 3) := by decide +kernel
theorem dX9_canDouble_42 : decode cX9_canDouble 42 = .ok (.iconst 1, 1) := by decide +kernel
theorem dX9_canDouble_43 : decode cX9_canDouble 43 = .ok (.if_icmp .ne 11, 3) := by decide +kernel
theorem dX9_canDouble_46 : decode cX9_canDouble 46 = .ok (.iload_n 2, 1) := by decide +kernel
theorem dX9_canDouble_47 : decode cX9_canDouble 47 = .ok (.ifCond .eq 7, 3) := by decide +kernel
theorem dX9_canDouble_50 : decode cX9_canDouble 50 = .ok (.iconst 1, 1) := by decide +kernel
theorem dX9_canDouble_51 : decode cX9_canDouble 51 = .ok (.goto 4, 3) := by decide +kernel
theorem dX9_canDouble_54 : decode cX9_canDouble 54 = .ok (.iconst 0, 1) := by decide +kernel
theorem dX9_canDouble_55 : decode cX9_canDouble 55 = .ok (.istore_n 3, 1) := by decide +kernel
theorem dX9_canDouble_56 : decode cX9_canDouble 56 = .ok (.aload_n 0, 1) := by decide +kernel
theorem dX9_canDouble_57 : decode cX9_canDouble 57 = .ok (.getfield 47, 3) := by decide +kernel
theorem dX9_canDouble_60 : decode cX9_canDouble 60 = .ok (.getfield 195, 3) := by decide +kernel
theorem dX9_canDouble_63 : decode cX9_canDouble 63 = .ok (.ifCond .le 26, 3) := by decide +kernel
theorem dX9_canDouble_66 : decode cX9_canDouble 66 = .ok (.aload_n 0, 1) := by decide +kernel
theorem dX9_canDouble_67 : decode cX9_canDouble 67 = .ok (.invokevirtual 173, 3) := by decide +kernel
theorem dX9_canDouble_70 : decode cX9_canDouble 70 = .ok (.ifCond .ne 19, 3) := by decide +kernel
theorem dX9_canDouble_73 : decode cX9_canDouble 73 = .ok (.aload_n 0, 1) := by decide +kernel
theorem dX9_canDouble_74 : decode cX9_canDouble 74 = .ok (.iload_n 1, 1) := by decide +kernel
theorem dX9_canDouble_75 : decode cX9_canDouble 75 = .ok (.invokevirtual 150, 3) := by decide +kernel
theorem dX9_canDouble_78 : decode cX9_canDouble 78 = .ok (.ifCond .eq 11, 3) := by decide +kernel
theorem dX9_canDouble_81 : decode cX9_canDouble 81 = .ok (.iload_n 3, 1) := by decide +kernel
theorem dX9_canDouble_82 : decode cX9_canDouble 82 = .ok (.ifCond .eq 7, 3) := by decide +kernel
theorem dX9_canDouble_85 : decode cX9_canDouble 85 = .ok (.iconst 1, 1) := by decide +kernel
theorem dX9_canDouble_86 : decode cX9_canDouble 86 = .ok (.goto 4, 3) := by decide +kernel
theorem dX9_canDouble_89 : decode cX9_canDouble 89 = .ok (.iconst 0, 1) := by decide +kernel
theorem dX9_canDouble_90 : decode cX9_canDouble 90 = .ok (.ireturn, 1) := by decide +kernel
theorem dX9_findingOf_0 : decode cX9_findingOf 0 = .ok (.aload_n 0, 1) := by decide +kernel
theorem dX9_findingOf_1 : decode cX9_findingOf 1 = .ok (.iload_n 1, 1) := by decide +kernel
theorem dX9_findingOf_2 : decode cX9_findingOf 2 = .ok (.invokevirtual 119, 3) := by decide +kernel
theorem dX9_findingOf_5 : decode cX9_findingOf 5 = .ok (.astore 4, 2) := by decide +kernel
theorem dX9_findingOf_7 : decode cX9_findingOf 7 = .ok (.aload_n 0, 1) := by decide +kernel
theorem dX9_findingOf_8 : decode cX9_findingOf 8 = .ok (.iload_n 1, 1) := by decide +kernel
theorem dX9_findingOf_9 : decode cX9_findingOf 9 = .ok (.invokevirtual 150, 3) := by decide +kernel
theorem dX9_findingOf_12 : decode cX9_findingOf 12 = .ok (.ifCond .ne 5, 3) := by decide +kernel
theorem dX9_findingOf_15 : decode cX9_findingOf 15 = .ok (.iconst 1, 1) := by decide +kernel
theorem dX9_findingOf_16 : decode cX9_findingOf 16 = .ok (.ireturn, 1) := by decide +kernel
theorem dX9_findingOf_17 : decode cX9_findingOf 17 = .ok (.aload 4, 2) := by decide +kernel
theorem dX9_findingOf_19 : decode cX9_findingOf 19 = .ok (.getfield 110, 3) := by decide +kernel
theorem dX9_findingOf_22 : decode cX9_findingOf 22 = .ok (.ifCond .ge 5, 3) := by decide +kernel
theorem dX9_findingOf_25 : decode cX9_findingOf 25 = .ok (.iconst 2, 1) := by decide +kernel
theorem dX9_findingOf_26 : decode cX9_findingOf 26 = .ok (.ireturn, 1) := by decide +kernel
theorem dX9_findingOf_27 : decode cX9_findingOf 27 = .ok (.iload_n 2, 1) := by decide +kernel
theorem dX9_findingOf_28 : decode cX9_findingOf 28 = .ok (.ifCond .lt 12, 3) := by decide +kernel
theorem dX9_findingOf_31 : decode cX9_findingOf 31 = .ok (.iload_n 2, 1) := by decide +kernel
theorem dX9_findingOf_32 : decode cX9_findingOf 32 = .ok (.aload 4, 2) := by decide +kernel
theorem dX9_findingOf_34 : decode cX9_findingOf 34 = .ok (.getfield 110, 3) := by decide +kernel
theorem dX9_findingOf_37 : decode cX9_findingOf 37 = .ok (.if_icmp .lt 5, 3) := by decide +kernel
theorem dX9_findingOf_40 : decode cX9_findingOf 40 = .ok (.iconst 3, 1) := by decide +kernel
theorem dX9_findingOf_41 : decode cX9_findingOf 41 = .ok (.ireturn, 1) := by decide +kernel
theorem dX9_findingOf_42 : decode cX9_findingOf 42 = .ok (.iload_n 3, 1) := by decide +kernel
theorem dX9_findingOf_43 : decode cX9_findingOf 43 = .ok (.ifCond .eq 16, 3) := by decide +kernel
theorem dX9_findingOf_46 : decode cX9_findingOf 46 = .ok (.aload_n 0, 1) := by decide +kernel
theorem dX9_findingOf_47 : decode cX9_findingOf 47 = .ok (.getfield 47, 3) := by decide +kernel
theorem dX9_findingOf_50 : decode cX9_findingOf 50 = .ok (.getfield 147, 3) := by decide +kernel
theorem dX9_findingOf_53 : decode cX9_findingOf 53 = .ok (.iload_n 1, 1) := by decide +kernel
theorem dX9_findingOf_54 : decode cX9_findingOf 54 = .ok (.if_icmp .eq 5, 3) := by decide +kernel
theorem dX9_findingOf_57 : decode cX9_findingOf 57 = .ok (.iconst 4, 1) := by decide +kernel
theorem dX9_findingOf_58 : decode cX9_findingOf 58 = .ok (.ireturn, 1) := by decide +kernel
theorem dX9_findingOf_59 : decode cX9_findingOf 59 = .ok (.aload_n 0, 1) := by decide +kernel
theorem dX9_findingOf_60 : decode cX9_findingOf 60 = .ok (.aload 4, 2) := by decide +kernel
theorem dX9_findingOf_62 : decode cX9_findingOf 62 = .ok (.iload_n 2, 1) := by decide +kernel
theorem dX9_findingOf_63 : decode cX9_findingOf 63 = .ok (.invokevirtual 123, 3) := by decide +kernel
theorem dX9_findingOf_66 : decode cX9_findingOf 66 = .ok (.invokevirtual 153, 3) := by decide +kernel
theorem dX9_findingOf_69 : decode cX9_findingOf 69 = .ok (.bipush 6, 2) := by decide +kernel
theorem dX9_findingOf_71 : decode cX9_findingOf 71 = .ok (.if_icmp .ne 7, 3) := by decide +kernel
theorem dX9_findingOf_74 : decode cX9_findingOf 74 = .ok (.iconst 5, 1) := by decide +kernel
theorem dX9_findingOf_75 : decode cX9_findingOf 75 = .ok (.goto 4, 3) := by decide +kernel
theorem dX9_findingOf_78 : decode cX9_findingOf 78 = .ok (.iconst 0, 1) := by decide +kernel
theorem dX9_findingOf_79 : decode cX9_findingOf 79 = .ok (.ireturn, 1) := by decide +kernel
theorem dX9_ruleAgainst_0 : decode cX9_ruleAgainst 0 = .ok (.aload_n 0, 1) := by decide +kernel
theorem dX9_ruleAgainst_1 : decode cX9_ruleAgainst 1 = .ok (.iload_n 2, 1) := by decide +kernel
theorem dX9_ruleAgainst_2 : decode cX9_ruleAgainst 2 = .ok (.invokevirtual 119, 3) := by decide +kernel
theorem dX9_ruleAgainst_5 : decode cX9_ruleAgainst 5 = .ok (.astore 4, 2) := by decide +kernel
theorem dX9_ruleAgainst_7 : decode cX9_ruleAgainst 7 = .ok (.aload_n 0, 1) := by decide +kernel
theorem dX9_ruleAgainst_8 : decode cX9_ruleAgainst 8 = .ok (.getfield 64, 3) := by decide +kernel
theorem dX9_ruleAgainst_11 : decode cX9_ruleAgainst 11 = .ok (.ifnonnull 7, 3) := by decide +kernel
theorem dX9_ruleAgainst_14 : decode cX9_ruleAgainst 14 = .ok (.iconst 0, 1) := by decide +kernel
theorem dX9_ruleAgainst_15 : decode cX9_ruleAgainst 15 = .ok (.goto 24, 3) := by decide +kernel
theorem dX9_ruleAgainst_18 : decode cX9_ruleAgainst 18 = .ok (.aload_n 0, 1) := by decide +kernel
theorem dX9_ruleAgainst_19 : decode cX9_ruleAgainst 19 = .ok (.getfield 64, 3) := by decide +kernel
theorem dX9_ruleAgainst_22 : decode cX9_ruleAgainst 22 = .ok (.aload_n 1, 1) := by decide +kernel
theorem dX9_ruleAgainst_23 : decode cX9_ruleAgainst 23 = .ok (.aload_n 0, 1) := by decide +kernel
theorem dX9_ruleAgainst_24 : decode cX9_ruleAgainst 24 = .ok (.aload 4, 2) := by decide +kernel
theorem dX9_ruleAgainst_26 : decode cX9_ruleAgainst 26 = .ok (.aload_n 0, 1) := by decide +kernel
theorem dX9_ruleAgainst_27 : decode cX9_ruleAgainst 27 = .ok (.getfield 34, 3) := by decide +kernel
theorem dX9_ruleAgainst_30 : decode cX9_ruleAgainst 30 = .ok (.aload 4, 2) := by decide +kernel
theorem dX9_ruleAgainst_32 : decode cX9_ruleAgainst 32 = .ok (.iload_n 3, 1) := by decide +kernel
theorem dX9_ruleAgainst_33 : decode cX9_ruleAgainst 33 = .ok (.invokevirtual 123, 3) := by decide +kernel
theorem dX9_ruleAgainst_36 : decode cX9_ruleAgainst 36 = .ok (.invokevirtual 198, 3) := by decide +kernel
theorem dX9_ruleAgainst_39 : decode cX9_ruleAgainst 39 = .ok (.ireturn, 1) := by decide +kernel
theorem dX9_layCard_0 : decode cX9_layCard 0 = .ok (.iload_n 3, 1) := by decide +kernel
theorem dX9_layCard_1 : decode cX9_layCard 1 = .ok (.ifCond .eq 23, 3) := by decide +kernel
theorem dX9_layCard_4 : decode cX9_layCard 4 = .ok (.aload_n 0, 1) := by decide +kernel
theorem dX9_layCard_5 : decode cX9_layCard 5 = .ok (.getfield 47, 3) := by decide +kernel
theorem dX9_layCard_8 : decode cX9_layCard 8 = .ok (.iload_n 1, 1) := by decide +kernel
theorem dX9_layCard_9 : decode cX9_layCard 9 = .ok (.aload_n 0, 1) := by decide +kernel
theorem dX9_layCard_10 : decode cX9_layCard 10 = .ok (.aload_n 0, 1) := by decide +kernel
theorem dX9_layCard_11 : decode cX9_layCard 11 = .ok (.getfield 34, 3) := by decide +kernel
theorem dX9_layCard_14 : decode cX9_layCard 14 = .ok (.iconst 0, 1) := by decide +kernel
theorem dX9_layCard_15 : decode cX9_layCard 15 = .ok (.invokevirtual 123, 3) := by decide +kernel
theorem dX9_layCard_18 : decode cX9_layCard 18 = .ok (.invokevirtual 153, 3) := by decide +kernel
theorem dX9_layCard_21 : decode cX9_layCard 21 = .ok (.invokevirtual 202, 3) := by decide +kernel
theorem dX9_layCard_24 : decode cX9_layCard 24 = .ok (.aload_n 0, 1) := by decide +kernel
theorem dX9_layCard_25 : decode cX9_layCard 25 = .ok (.iload_n 1, 1) := by decide +kernel
theorem dX9_layCard_26 : decode cX9_layCard 26 = .ok (.invokevirtual 119, 3) := by decide +kernel
theorem dX9_layCard_29 : decode cX9_layCard 29 = .ok (.iload_n 2, 1) := by decide +kernel
theorem dX9_layCard_30 : decode cX9_layCard 30 = .ok (.invokevirtual 179, 3) := by decide +kernel
theorem dX9_layCard_33 : decode cX9_layCard 33 = .ok (.istore 4, 2) := by decide +kernel
theorem dX9_layCard_35 : decode cX9_layCard 35 = .ok (.aload_n 0, 1) := by decide +kernel
theorem dX9_layCard_36 : decode cX9_layCard 36 = .ok (.getfield 34, 3) := by decide +kernel
theorem dX9_layCard_39 : decode cX9_layCard 39 = .ok (.iload 4, 2) := by decide +kernel
theorem dX9_layCard_41 : decode cX9_layCard 41 = .ok (.invokevirtual 116, 3) := by decide +kernel
theorem dX9_layCard_44 : decode cX9_layCard 44 = .ok (.aload_n 0, 1) := by decide +kernel
theorem dX9_layCard_45 : decode cX9_layCard 45 = .ok (.getfield 37, 3) := by decide +kernel
theorem dX9_layCard_48 : decode cX9_layCard 48 = .ok (.iload_n 1, 1) := by decide +kernel
theorem dX9_layCard_49 : decode cX9_layCard 49 = .ok (.invokevirtual 116, 3) := by decide +kernel
theorem dX9_layCard_52 : decode cX9_layCard 52 = .ok (.aload_n 0, 1) := by decide +kernel
theorem dX9_layCard_53 : decode cX9_layCard 53 = .ok (.iload 4, 2) := by decide +kernel
theorem dX9_layCard_55 : decode cX9_layCard 55 = .ok (.iconst 5, 1) := by decide +kernel
theorem dX9_layCard_56 : decode cX9_layCard 56 = .ok (.invokevirtual 127, 3) := by decide +kernel
theorem dX9_layCard_59 : decode cX9_layCard 59 = .ok (.iload 4, 2) := by decide +kernel
theorem dX9_layCard_61 : decode cX9_layCard 61 = .ok (.ifCond .lt 27, 3) := by decide +kernel
theorem dX9_layCard_64 : decode cX9_layCard 64 = .ok (.iload 4, 2) := by decide +kernel
theorem dX9_layCard_66 : decode cX9_layCard 66 = .ok (.bipush 60, 2) := by decide +kernel
theorem dX9_layCard_68 : decode cX9_layCard 68 = .ok (.if_icmp .ge 20, 3) := by decide +kernel
theorem dX9_layCard_71 : decode cX9_layCard 71 = .ok (.aload_n 0, 1) := by decide +kernel
theorem dX9_layCard_72 : decode cX9_layCard 72 = .ok (.getfield 47, 3) := by decide +kernel
theorem dX9_layCard_75 : decode cX9_layCard 75 = .ok (.getfield 205, 3) := by decide +kernel
theorem dX9_layCard_78 : decode cX9_layCard 78 = .ok (.iload 4, 2) := by decide +kernel
theorem dX9_layCard_80 : decode cX9_layCard 80 = .ok (.aload_n 0, 1) := by decide +kernel
theorem dX9_layCard_81 : decode cX9_layCard 81 = .ok (.getfield 47, 3) := by decide +kernel
theorem dX9_layCard_84 : decode cX9_layCard 84 = .ok (.getfield 162, 3) := by decide +kernel
theorem dX9_layCard_87 : decode cX9_layCard 87 = .ok (.iastore, 1) := by decide +kernel
theorem dX9_layCard_88 : decode cX9_layCard 88 = .ok (.aload_n 0, 1) := by decide +kernel
theorem dX9_layCard_89 : decode cX9_layCard 89 = .ok (.iload_n 1, 1) := by decide +kernel
theorem dX9_layCard_90 : decode cX9_layCard 90 = .ok (.aload_n 0, 1) := by decide +kernel
theorem dX9_layCard_91 : decode cX9_layCard 91 = .ok (.getfield 47, 3) := by decide +kernel
theorem dX9_layCard_94 : decode cX9_layCard 94 = .ok (.iload_n 1, 1) := by decide +kernel
theorem dX9_layCard_95 : decode cX9_layCard 95 = .ok (.aload_n 0, 1) := by decide +kernel
theorem dX9_layCard_96 : decode cX9_layCard 96 = .ok (.iload 4, 2) := by decide +kernel
theorem dX9_layCard_98 : decode cX9_layCard 98 = .ok (.invokevirtual 153, 3) := by decide +kernel
theorem dX9_layCard_101 : decode cX9_layCard 101 = .ok (.invokevirtual 208, 3) := by decide +kernel
theorem dX9_layCard_104 : decode cX9_layCard 104 = .ok (.invokevirtual 211, 3) := by decide +kernel
theorem dX9_layCard_107 : decode cX9_layCard 107 = .ok (.aload_n 0, 1) := by decide +kernel
theorem dX9_layCard_108 : decode cX9_layCard 108 = .ok (.getfield 47, 3) := by decide +kernel
theorem dX9_layCard_111 : decode cX9_layCard 111 = .ok (.aload_n 0, 1) := by decide +kernel
theorem dX9_layCard_112 : decode cX9_layCard 112 = .ok (.iload_n 1, 1) := by decide +kernel
theorem dX9_layCard_113 : decode cX9_layCard 113 = .ok (.iconst 1, 1) := by decide +kernel
theorem dX9_layCard_114 : decode cX9_layCard 114 = .ok (.iadd, 1) := by decide +kernel
theorem dX9_layCard_115 : decode cX9_layCard 115 = .ok (.invokevirtual 144, 3) := by decide +kernel
theorem dX9_layCard_118 : decode cX9_layCard 118 = .ok (.putfield 147, 3) := by decide +kernel
theorem dX9_layCard_121 : decode cX9_layCard 121 = .ok (.iload 4, 2) := by decide +kernel
theorem dX9_layCard_123 : decode cX9_layCard 123 = .ok (.ireturn, 1) := by decide +kernel
theorem dX9_putRight_0 : decode cX9_putRight 0 = .ok (.iload_n 1, 1) := by decide +kernel
theorem dX9_putRight_1 : decode cX9_putRight 1 = .ok (.iconst 1, 1) := by decide +kernel
theorem dX9_putRight_2 : decode cX9_putRight 2 = .ok (.iand, 1) := by decide +kernel
theorem dX9_putRight_3 : decode cX9_putRight 3 = .ok (.istore_n 3, 1) := by decide +kernel
theorem dX9_putRight_4 : decode cX9_putRight 4 = .ok (.iload_n 2, 1) := by decide +kernel
theorem dX9_putRight_5 : decode cX9_putRight 5 = .ok (.ifCond .lt 22, 3) := by decide +kernel
theorem dX9_putRight_8 : decode cX9_putRight 8 = .ok (.iload_n 2, 1) := by decide +kernel
theorem dX9_putRight_9 : decode cX9_putRight 9 = .ok (.bipush 15, 2) := by decide +kernel
theorem dX9_putRight_11 : decode cX9_putRight 11 = .ok (.if_icmp .ge 16, 3) := by decide +kernel
theorem dX9_putRight_14 : decode cX9_putRight 14 = .ok (.aload_n 0, 1) := by decide +kernel
theorem dX9_putRight_15 : decode cX9_putRight 15 = .ok (.getfield 47, 3) := by decide +kernel
theorem dX9_putRight_18 : decode cX9_putRight 18 = .ok (.getfield 214, 3) := by decide +kernel
theorem dX9_putRight_21 : decode cX9_putRight 21 = .ok (.iload_n 2, 1) := by decide +kernel
theorem dX9_putRight_22 : decode cX9_putRight 22 = .ok (.iaload, 1) := by decide +kernel
theorem dX9_putRight_23 : decode cX9_putRight 23 = .ok (.iload_n 3, 1) := by decide +kernel
theorem dX9_putRight_24 : decode cX9_putRight 24 = .ok (.if_icmp .eq 4, 3) := by decide +kernel
theorem dX9_putRight_27 : decode cX9_putRight 27 = .ok (.return_, 1) := by decide +kernel
theorem dX9_putRight_28 : decode cX9_putRight 28 = .ok (.aload_n 0, 1) := by decide +kernel
theorem dX9_putRight_29 : decode cX9_putRight 29 = .ok (.getfield 47, 3) := by decide +kernel
theorem dX9_putRight_32 : decode cX9_putRight 32 = .ok (.iload_n 2, 1) := by decide +kernel
theorem dX9_putRight_33 : decode cX9_putRight 33 = .ok (.iconst 1, 1) := by decide +kernel
theorem dX9_putRight_34 : decode cX9_putRight 34 = .ok (.iload_n 3, 1) := by decide +kernel
theorem dX9_putRight_35 : decode cX9_putRight 35 = .ok (.isub, 1) := by decide +kernel
theorem dX9_putRight_36 : decode cX9_putRight 36 = .ok (.invokevirtual 217, 3) := by decide +kernel
theorem dX9_putRight_39 : decode cX9_putRight 39 = .ok (.iconst 0, 1) := by decide +kernel
theorem dX9_putRight_40 : decode cX9_putRight 40 = .ok (.istore 4, 2) := by decide +kernel
theorem dX9_putRight_42 : decode cX9_putRight 42 = .ok (.iload 4, 2) := by decide +kernel
theorem dX9_putRight_44 : decode cX9_putRight 44 = .ok (.bipush 60, 2) := by decide +kernel
theorem dX9_putRight_46 : decode cX9_putRight 46 = .ok (.if_icmp .ge 34, 3) := by decide +kernel
theorem dX9_putRight_49 : decode cX9_putRight 49 = .ok (.aload_n 0, 1) := by decide +kernel
theorem dX9_putRight_50 : decode cX9_putRight 50 = .ok (.getfield 47, 3) := by decide +kernel
theorem dX9_putRight_53 : decode cX9_putRight 53 = .ok (.getfield 205, 3) := by decide +kernel
theorem dX9_putRight_56 : decode cX9_putRight 56 = .ok (.iload 4, 2) := by decide +kernel
theorem dX9_putRight_58 : decode cX9_putRight 58 = .ok (.iaload, 1) := by decide +kernel
theorem dX9_putRight_59 : decode cX9_putRight 59 = .ok (.iload_n 2, 1) := by decide +kernel
theorem dX9_putRight_60 : decode cX9_putRight 60 = .ok (.if_icmp .ne 14, 3) := by decide +kernel
theorem dX9_putRight_63 : decode cX9_putRight 63 = .ok (.aload_n 0, 1) := by decide +kernel
theorem dX9_putRight_64 : decode cX9_putRight 64 = .ok (.getfield 15, 3) := by decide +kernel
theorem dX9_putRight_67 : decode cX9_putRight 67 = .ok (.iload 4, 2) := by decide +kernel
theorem dX9_putRight_69 : decode cX9_putRight 69 = .ok (.bipush 7, 2) := by decide +kernel
theorem dX9_putRight_71 : decode cX9_putRight 71 = .ok (.iload_n 3, 1) := by decide +kernel
theorem dX9_putRight_72 : decode cX9_putRight 72 = .ok (.isub, 1) := by decide +kernel
theorem dX9_putRight_73 : decode cX9_putRight 73 = .ok (.iastore, 1) := by decide +kernel
theorem dX9_putRight_74 : decode cX9_putRight 74 = .ok (.iinc 4 1, 3) := by decide +kernel
theorem dX9_putRight_77 : decode cX9_putRight 77 = .ok (.goto (-35), 3) := by decide +kernel
theorem dX9_putRight_80 : decode cX9_putRight 80 = .ok (.return_, 1) := by decide +kernel
theorem dX9_endTrick_0 : decode cX9_endTrick 0 = .ok (.aload_n 0, 1) := by decide +kernel
theorem dX9_endTrick_1 : decode cX9_endTrick 1 = .ok (.getfield 64, 3) := by decide +kernel
theorem dX9_endTrick_4 : decode cX9_endTrick 4 = .ok (.ifnonnull 4, 3) := by decide +kernel
theorem dX9_endTrick_7 : decode cX9_endTrick 7 = .ok (.return_, 1) := by decide +kernel
theorem dX9_endTrick_8 : decode cX9_endTrick 8 = .ok (.aload_n 0, 1) := by decide +kernel
theorem dX9_endTrick_9 : decode cX9_endTrick 9 = .ok (.getfield 64, 3) := by decide +kernel
theorem dX9_endTrick_12 : decode cX9_endTrick 12 = .ok (.aload_n 1, 1) := by decide +kernel
theorem dX9_endTrick_13 : decode cX9_endTrick 13 = .ok (.aload_n 0, 1) := by decide +kernel
theorem dX9_endTrick_14 : decode cX9_endTrick 14 = .ok (.aload_n 0, 1) := by decide +kernel
theorem dX9_endTrick_15 : decode cX9_endTrick 15 = .ok (.getfield 34, 3) := by decide +kernel
theorem dX9_endTrick_18 : decode cX9_endTrick 18 = .ok (.invokevirtual 220, 3) := by decide +kernel
theorem dX9_endTrick_21 : decode cX9_endTrick 21 = .ok (.istore_n 2, 1) := by decide +kernel
theorem dX9_endTrick_22 : decode cX9_endTrick 22 = .ok (.aload_n 0, 1) := by decide +kernel
theorem dX9_endTrick_23 : decode cX9_endTrick 23 = .ok (.getfield 37, 3) := by decide +kernel
theorem dX9_endTrick_26 : decode cX9_endTrick 26 = .ok (.iload_n 2, 1) := by decide +kernel
theorem dX9_endTrick_27 : decode cX9_endTrick 27 = .ok (.invokevirtual 123, 3) := by decide +kernel
theorem dX9_endTrick_30 : decode cX9_endTrick 30 = .ok (.istore_n 3, 1) := by decide +kernel
theorem dX9_endTrick_31 : decode cX9_endTrick 31 = .ok (.iload_n 3, 1) := by decide +kernel
theorem dX9_endTrick_32 : decode cX9_endTrick 32 = .ok (.iconst 1, 1) := by decide +kernel
theorem dX9_endTrick_33 : decode cX9_endTrick 33 = .ok (.iand, 1) := by decide +kernel
theorem dX9_endTrick_34 : decode cX9_endTrick 34 = .ok (.istore 4, 2) := by decide +kernel
theorem dX9_endTrick_36 : decode cX9_endTrick 36 = .ok (.aload_n 0, 1) := by decide +kernel
theorem dX9_endTrick_37 : decode cX9_endTrick 37 = .ok (.getfield 47, 3) := by decide +kernel
theorem dX9_endTrick_40 : decode cX9_endTrick 40 = .ok (.iload 4, 2) := by decide +kernel
theorem dX9_endTrick_42 : decode cX9_endTrick 42 = .ok (.aload_n 0, 1) := by decide +kernel
theorem dX9_endTrick_43 : decode cX9_endTrick 43 = .ok (.getfield 64, 3) := by decide +kernel
theorem dX9_endTrick_46 : decode cX9_endTrick 46 = .ok (.aload_n 1, 1) := by decide +kernel
theorem dX9_endTrick_47 : decode cX9_endTrick 47 = .ok (.aload_n 0, 1) := by decide +kernel
theorem dX9_endTrick_48 : decode cX9_endTrick 48 = .ok (.aload_n 0, 1) := by decide +kernel
theorem dX9_endTrick_49 : decode cX9_endTrick 49 = .ok (.getfield 34, 3) := by decide +kernel
theorem dX9_endTrick_52 : decode cX9_endTrick 52 = .ok (.aload_n 0, 1) := by decide +kernel
theorem dX9_endTrick_53 : decode cX9_endTrick 53 = .ok (.getfield 34, 3) := by decide +kernel
theorem dX9_endTrick_56 : decode cX9_endTrick 56 = .ok (.iload_n 2, 1) := by decide +kernel
theorem dX9_endTrick_57 : decode cX9_endTrick 57 = .ok (.invokevirtual 123, 3) := by decide +kernel
theorem dX9_endTrick_60 : decode cX9_endTrick 60 = .ok (.invokevirtual 224, 3) := by decide +kernel
theorem dX9_endTrick_63 : decode cX9_endTrick 63 = .ok (.invokevirtual 228, 3) := by decide +kernel
theorem dX9_endTrick_66 : decode cX9_endTrick 66 = .ok (.aload_n 0, 1) := by decide +kernel
theorem dX9_endTrick_67 : decode cX9_endTrick 67 = .ok (.getfield 47, 3) := by decide +kernel
theorem dX9_endTrick_70 : decode cX9_endTrick 70 = .ok (.iload_n 3, 1) := by decide +kernel
theorem dX9_endTrick_71 : decode cX9_endTrick 71 = .ok (.putfield 231, 3) := by decide +kernel
theorem dX9_endTrick_74 : decode cX9_endTrick 74 = .ok (.iconst 0, 1) := by decide +kernel
theorem dX9_endTrick_75 : decode cX9_endTrick 75 = .ok (.istore 5, 2) := by decide +kernel
theorem dX9_endTrick_77 : decode cX9_endTrick 77 = .ok (.iload 5, 2) := by decide +kernel
theorem dX9_endTrick_79 : decode cX9_endTrick 79 = .ok (.aload_n 0, 1) := by decide +kernel
theorem dX9_endTrick_80 : decode cX9_endTrick 80 = .ok (.getfield 34, 3) := by decide +kernel
theorem dX9_endTrick_83 : decode cX9_endTrick 83 = .ok (.getfield 110, 3) := by decide +kernel
theorem dX9_endTrick_86 : decode cX9_endTrick 86 = .ok (.if_icmp .ge 27, 3) := by decide +kernel
theorem dX9_endTrick_89 : decode cX9_endTrick 89 = .ok (.aload_n 0, 1) := by decide +kernel
theorem dX9_endTrick_90 : decode cX9_endTrick 90 = .ok (.aload_n 0, 1) := by decide +kernel
theorem dX9_endTrick_91 : decode cX9_endTrick 91 = .ok (.getfield 34, 3) := by decide +kernel
theorem dX9_endTrick_94 : decode cX9_endTrick 94 = .ok (.iload 5, 2) := by decide +kernel
theorem dX9_endTrick_96 : decode cX9_endTrick 96 = .ok (.invokevirtual 123, 3) := by decide +kernel
theorem dX9_endTrick_99 : decode cX9_endTrick 99 = .ok (.bipush 6, 2) := by decide +kernel
theorem dX9_endTrick_101 : decode cX9_endTrick 101 = .ok (.iload 4, 2) := by decide +kernel
theorem dX9_endTrick_103 : decode cX9_endTrick 103 = .ok (.iadd, 1) := by decide +kernel
theorem dX9_endTrick_104 : decode cX9_endTrick 104 = .ok (.invokevirtual 127, 3) := by decide +kernel
theorem dX9_endTrick_107 : decode cX9_endTrick 107 = .ok (.iinc 5 1, 3) := by decide +kernel
theorem dX9_endTrick_110 : decode cX9_endTrick 110 = .ok (.goto (-33), 3) := by decide +kernel
theorem dX9_endTrick_113 : decode cX9_endTrick 113 = .ok (.aload_n 0, 1) := by decide +kernel
theorem dX9_endTrick_114 : decode cX9_endTrick 114 = .ok (.getfield 34, 3) := by decide +kernel
theorem dX9_endTrick_117 : decode cX9_endTrick 117 = .ok (.iconst 0, 1) := by decide +kernel
theorem dX9_endTrick_118 : decode cX9_endTrick 118 = .ok (.putfield 110, 3) := by decide +kernel
theorem dX9_endTrick_121 : decode cX9_endTrick 121 = .ok (.aload_n 0, 1) := by decide +kernel
theorem dX9_endTrick_122 : decode cX9_endTrick 122 = .ok (.getfield 37, 3) := by decide +kernel
theorem dX9_endTrick_125 : decode cX9_endTrick 125 = .ok (.iconst 0, 1) := by decide +kernel
theorem dX9_endTrick_126 : decode cX9_endTrick 126 = .ok (.putfield 110, 3) := by decide +kernel
theorem dX9_endTrick_129 : decode cX9_endTrick 129 = .ok (.aload_n 0, 1) := by decide +kernel
theorem dX9_endTrick_130 : decode cX9_endTrick 130 = .ok (.getfield 47, 3) := by decide +kernel
theorem dX9_endTrick_133 : decode cX9_endTrick 133 = .ok (.aload_n 0, 1) := by decide +kernel
theorem dX9_endTrick_134 : decode cX9_endTrick 134 = .ok (.iload_n 3, 1) := by decide +kernel
theorem dX9_endTrick_135 : decode cX9_endTrick 135 = .ok (.invokevirtual 144, 3) := by decide +kernel
theorem dX9_endTrick_138 : decode cX9_endTrick 138 = .ok (.putfield 147, 3) := by decide +kernel
theorem dX9_endTrick_141 : decode cX9_endTrick 141 = .ok (.aload_n 0, 1) := by decide +kernel
theorem dX9_endTrick_142 : decode cX9_endTrick 142 = .ok (.getfield 47, 3) := by decide +kernel
theorem dX9_endTrick_145 : decode cX9_endTrick 145 = .ok (.getfield 147, 3) := by decide +kernel
theorem dX9_endTrick_148 : decode cX9_endTrick 148 = .ok (.iconst (-1), 1) := by decide +kernel
theorem dX9_endTrick_149 : decode cX9_endTrick 149 = .ok (.if_icmp .ne 8, 3) := by decide +kernel
theorem dX9_endTrick_152 : decode cX9_endTrick 152 = .ok (.aload_n 0, 1) := by decide +kernel
theorem dX9_endTrick_153 : decode cX9_endTrick 153 = .ok (.aload_n 1, 1) := by decide +kernel
theorem dX9_endTrick_154 : decode cX9_endTrick 154 = .ok (.invokevirtual 234, 3) := by decide +kernel
theorem dX9_endTrick_157 : decode cX9_endTrick 157 = .ok (.return_, 1) := by decide +kernel
theorem dX9_endDeal_0 : decode cX9_endDeal 0 = .ok (.aload_n 0, 1) := by decide +kernel
theorem dX9_endDeal_1 : decode cX9_endDeal 1 = .ok (.getfield 47, 3) := by decide +kernel
theorem dX9_endDeal_4 : decode cX9_endDeal 4 = .ok (.iconst 2, 1) := by decide +kernel
theorem dX9_endDeal_5 : decode cX9_endDeal 5 = .ok (.putfield 97, 3) := by decide +kernel
theorem dX9_endDeal_8 : decode cX9_endDeal 8 = .ok (.aload_n 0, 1) := by decide +kernel
theorem dX9_endDeal_9 : decode cX9_endDeal 9 = .ok (.getfield 47, 3) := by decide +kernel
theorem dX9_endDeal_12 : decode cX9_endDeal 12 = .ok (.iconst (-1), 1) := by decide +kernel
theorem dX9_endDeal_13 : decode cX9_endDeal 13 = .ok (.putfield 147, 3) := by decide +kernel
theorem dX9_endDeal_16 : decode cX9_endDeal 16 = .ok (.iconst 0, 1) := by decide +kernel
theorem dX9_endDeal_17 : decode cX9_endDeal 17 = .ok (.istore_n 2, 1) := by decide +kernel
theorem dX9_endDeal_18 : decode cX9_endDeal 18 = .ok (.iload_n 2, 1) := by decide +kernel
theorem dX9_endDeal_19 : decode cX9_endDeal 19 = .ok (.iconst 2, 1) := by decide +kernel
theorem dX9_endDeal_20 : decode cX9_endDeal 20 = .ok (.if_icmp .ge 44, 3) := by decide +kernel
theorem dX9_endDeal_23 : decode cX9_endDeal 23 = .ok (.aload_n 0, 1) := by decide +kernel
theorem dX9_endDeal_24 : decode cX9_endDeal 24 = .ok (.getfield 64, 3) := by decide +kernel
theorem dX9_endDeal_27 : decode cX9_endDeal 27 = .ok (.ifnull 37, 3) := by decide +kernel
theorem dX9_endDeal_30 : decode cX9_endDeal 30 = .ok (.aload_n 0, 1) := by decide +kernel
theorem dX9_endDeal_31 : decode cX9_endDeal 31 = .ok (.aload_n 1, 1) := by decide +kernel
theorem dX9_endDeal_32 : decode cX9_endDeal 32 = .ok (.iload_n 2, 1) := by decide +kernel
theorem dX9_endDeal_33 : decode cX9_endDeal 33 = .ok (.aload_n 0, 1) := by decide +kernel
theorem dX9_endDeal_34 : decode cX9_endDeal 34 = .ok (.getfield 64, 3) := by decide +kernel
theorem dX9_endDeal_37 : decode cX9_endDeal 37 = .ok (.aload_n 1, 1) := by decide +kernel
theorem dX9_endDeal_38 : decode cX9_endDeal 38 = .ok (.aload_n 0, 1) := by decide +kernel
theorem dX9_endDeal_39 : decode cX9_endDeal 39 = .ok (.getfield 47, 3) := by decide +kernel
theorem dX9_endDeal_42 : decode cX9_endDeal 42 = .ok (.iload_n 2, 1) := by decide +kernel
theorem dX9_endDeal_43 : decode cX9_endDeal 43 = .ok (.aload_n 0, 1) := by decide +kernel
theorem dX9_endDeal_44 : decode cX9_endDeal 44 = .ok (.getfield 47, 3) := by decide +kernel
theorem dX9_endDeal_47 : decode cX9_endDeal 47 = .ok (.getfield 238, 3) := by decide +kernel
theorem dX9_endDeal_50 : decode cX9_endDeal 50 = .ok (.iload_n 2, 1) := by decide +kernel
theorem dX9_endDeal_51 : decode cX9_endDeal 51 = .ok (.iaload, 1) := by decide +kernel
theorem dX9_endDeal_52 : decode cX9_endDeal 52 = .ok (.invokevirtual 241, 3) := by decide +kernel
theorem dX9_endDeal_55 : decode cX9_endDeal 55 = .ok (.invokevirtual 245, 3) := by decide +kernel
theorem dX9_endDeal_58 : decode cX9_endDeal 58 = .ok (.iinc 2 1, 3) := by decide +kernel
theorem dX9_endDeal_61 : decode cX9_endDeal 61 = .ok (.goto (-43), 3) := by decide +kernel
theorem dX9_endDeal_64 : decode cX9_endDeal 64 = .ok (.return_, 1) := by decide +kernel
theorem dX9_share_0 : decode cX9_share 0 = .ok (.aload_n 0, 1) := by decide +kernel
theorem dX9_share_1 : decode cX9_share 1 = .ok (.iload_n 2, 1) := by decide +kernel
theorem dX9_share_2 : decode cX9_share 2 = .ok (.invokevirtual 150, 3) := by decide +kernel
theorem dX9_share_5 : decode cX9_share 5 = .ok (.ifCond .eq 7, 3) := by decide +kernel
theorem dX9_share_8 : decode cX9_share 8 = .ok (.iconst 1, 1) := by decide +kernel
theorem dX9_share_9 : decode cX9_share 9 = .ok (.goto 4, 3) := by decide +kernel
theorem dX9_share_12 : decode cX9_share 12 = .ok (.iconst 0, 1) := by decide +kernel
theorem dX9_share_13 : decode cX9_share 13 = .ok (.aload_n 0, 1) := by decide +kernel
theorem dX9_share_14 : decode cX9_share 14 = .ok (.iload_n 2, 1) := by decide +kernel
theorem dX9_share_15 : decode cX9_share 15 = .ok (.iconst 2, 1) := by decide +kernel
theorem dX9_share_16 : decode cX9_share 16 = .ok (.iadd, 1) := by decide +kernel
theorem dX9_share_17 : decode cX9_share 17 = .ok (.invokevirtual 150, 3) := by decide +kernel
theorem dX9_share_20 : decode cX9_share 20 = .ok (.ifCond .eq 7, 3) := by decide +kernel
theorem dX9_share_23 : decode cX9_share 23 = .ok (.iconst 1, 1) := by decide +kernel
theorem dX9_share_24 : decode cX9_share 24 = .ok (.goto 4, 3) := by decide +kernel
theorem dX9_share_27 : decode cX9_share 27 = .ok (.iconst 0, 1) := by decide +kernel
theorem dX9_share_28 : decode cX9_share 28 = .ok (.iadd, 1) := by decide +kernel
theorem dX9_share_29 : decode cX9_share 29 = .ok (.istore 4, 2) := by decide +kernel
theorem dX9_share_31 : decode cX9_share 31 = .ok (.iload 4, 2) := by decide +kernel
theorem dX9_share_33 : decode cX9_share 33 = .ok (.ifCond .ne 16, 3) := by decide +kernel
theorem dX9_share_36 : decode cX9_share 36 = .ok (.aload_n 1, 1) := by decide +kernel
theorem dX9_share_37 : decode cX9_share 37 = .ok (.bipush 7, 2) := by decide +kernel
theorem dX9_share_39 : decode cX9_share 39 = .ok (.aload_n 0, 1) := by decide +kernel
theorem dX9_share_40 : decode cX9_share 40 = .ok (.getfield 51, 3) := by decide +kernel
theorem dX9_share_43 : decode cX9_share 43 = .ok (.iload_n 2, 1) := by decide +kernel
theorem dX9_share_44 : decode cX9_share 44 = .ok (.iconst 0, 1) := by decide +kernel
theorem dX9_share_45 : decode cX9_share 45 = .ok (.invokevirtual 249, 3) := by decide +kernel
theorem dX9_share_48 : decode cX9_share 48 = .ok (.return_, 1) := by decide +kernel
theorem dX9_share_49 : decode cX9_share 49 = .ok (.iload_n 2, 1) := by decide +kernel
theorem dX9_share_50 : decode cX9_share 50 = .ok (.istore 5, 2) := by decide +kernel
theorem dX9_share_52 : decode cX9_share 52 = .ok (.iload 5, 2) := by decide +kernel
theorem dX9_share_54 : decode cX9_share 54 = .ok (.iconst 4, 1) := by decide +kernel
theorem dX9_share_55 : decode cX9_share 55 = .ok (.if_icmp .ge 36, 3) := by decide +kernel
theorem dX9_share_58 : decode cX9_share 58 = .ok (.aload_n 0, 1) := by decide +kernel
theorem dX9_share_59 : decode cX9_share 59 = .ok (.getfield 22, 3) := by decide +kernel
theorem dX9_share_62 : decode cX9_share 62 = .ok (.iload 5, 2) := by decide +kernel
theorem dX9_share_64 : decode cX9_share 64 = .ok (.dup2, 1) := by decide +kernel
theorem dX9_share_65 : decode cX9_share 65 = .ok (.iaload, 1) := by decide +kernel
theorem dX9_share_66 : decode cX9_share 66 = .ok (.aload_n 0, 1) := by decide +kernel
theorem dX9_share_67 : decode cX9_share 67 = .ok (.iload 5, 2) := by decide +kernel
theorem dX9_share_69 : decode cX9_share 69 = .ok (.invokevirtual 150, 3) := by decide +kernel
theorem dX9_share_72 : decode cX9_share 72 = .ok (.ifCond .eq 10, 3) := by decide +kernel
theorem dX9_share_75 : decode cX9_share 75 = .ok (.iload_n 3, 1) := by decide +kernel
theorem dX9_share_76 : decode cX9_share 76 = .ok (.iload 4, 2) := by decide +kernel
theorem dX9_share_78 : decode cX9_share 78 = .ok (.idiv, 1) := by decide +kernel
theorem dX9_share_79 : decode cX9_share 79 = .ok (.goto 4, 3) := by decide +kernel
theorem dX9_share_82 : decode cX9_share 82 = .ok (.iconst 0, 1) := by decide +kernel
theorem dX9_share_83 : decode cX9_share 83 = .ok (.iadd, 1) := by decide +kernel
theorem dX9_share_84 : decode cX9_share 84 = .ok (.iastore, 1) := by decide +kernel
theorem dX9_share_85 : decode cX9_share 85 = .ok (.iinc 5 2, 3) := by decide +kernel
theorem dX9_share_88 : decode cX9_share 88 = .ok (.goto (-36), 3) := by decide +kernel
theorem dX9_share_91 : decode cX9_share 91 = .ok (.return_, 1) := by decide +kernel
theorem dX9_isEnd_0 : decode cX9_isEnd 0 = .ok (.aload_n 0, 1) := by decide +kernel
theorem dX9_isEnd_1 : decode cX9_isEnd 1 = .ok (.invokevirtual 169, 3) := by decide +kernel
theorem dX9_isEnd_4 : decode cX9_isEnd 4 = .ok (.ifCond .eq 17, 3) := by decide +kernel
theorem dX9_isEnd_7 : decode cX9_isEnd 7 = .ok (.aload_n 0, 1) := by decide +kernel
theorem dX9_isEnd_8 : decode cX9_isEnd 8 = .ok (.getfield 34, 3) := by decide +kernel
theorem dX9_isEnd_11 : decode cX9_isEnd 11 = .ok (.getfield 110, 3) := by decide +kernel
theorem dX9_isEnd_14 : decode cX9_isEnd 14 = .ok (.ifCond .ne 7, 3) := by decide +kernel
theorem dX9_isEnd_17 : decode cX9_isEnd 17 = .ok (.iconst 1, 1) := by decide +kernel
theorem dX9_isEnd_18 : decode cX9_isEnd 18 = .ok (.goto 4, 3) := by decide +kernel
theorem dX9_isEnd_21 : decode cX9_isEnd 21 = .ok (.iconst 0, 1) := by decide +kernel
theorem dX9_isEnd_22 : decode cX9_isEnd 22 = .ok (.istore_n 1, 1) := by decide +kernel
theorem dX9_isEnd_23 : decode cX9_isEnd 23 = .ok (.iconst 0, 1) := by decide +kernel
theorem dX9_isEnd_24 : decode cX9_isEnd 24 = .ok (.istore_n 2, 1) := by decide +kernel
theorem dX9_isEnd_25 : decode cX9_isEnd 25 = .ok (.iload_n 2, 1) := by decide +kernel
theorem dX9_isEnd_26 : decode cX9_isEnd 26 = .ok (.iconst 4, 1) := by decide +kernel
theorem dX9_isEnd_27 : decode cX9_isEnd 27 = .ok (.if_icmp .ge 48, 3) := by decide +kernel
theorem dX9_isEnd_30 : decode cX9_isEnd 30 = .ok (.iload_n 1, 1) := by decide +kernel
theorem dX9_isEnd_31 : decode cX9_isEnd 31 = .ok (.ifCond .eq 44, 3) := by decide +kernel
theorem dX9_isEnd_34 : decode cX9_isEnd 34 = .ok (.aload_n 0, 1) := by decide +kernel
theorem dX9_isEnd_35 : decode cX9_isEnd 35 = .ok (.getfield 40, 3) := by decide +kernel
theorem dX9_isEnd_38 : decode cX9_isEnd 38 = .ok (.iload_n 2, 1) := by decide +kernel
theorem dX9_isEnd_39 : decode cX9_isEnd 39 = .ok (.aaload, 1) := by decide +kernel
theorem dX9_isEnd_40 : decode cX9_isEnd 40 = .ok (.getfield 110, 3) := by decide +kernel
theorem dX9_isEnd_43 : decode cX9_isEnd 43 = .ok (.iconst 4, 1) := by decide +kernel
theorem dX9_isEnd_44 : decode cX9_isEnd 44 = .ok (.if_icmp .gt 23, 3) := by decide +kernel
theorem dX9_isEnd_47 : decode cX9_isEnd 47 = .ok (.aload_n 0, 1) := by decide +kernel
theorem dX9_isEnd_48 : decode cX9_isEnd 48 = .ok (.aload_n 0, 1) := by decide +kernel
theorem dX9_isEnd_49 : decode cX9_isEnd 49 = .ok (.getfield 40, 3) := by decide +kernel
theorem dX9_isEnd_52 : decode cX9_isEnd 52 = .ok (.iload_n 2, 1) := by decide +kernel
theorem dX9_isEnd_53 : decode cX9_isEnd 53 = .ok (.aaload, 1) := by decide +kernel
theorem dX9_isEnd_54 : decode cX9_isEnd 54 = .ok (.bipush 6, 2) := by decide +kernel
theorem dX9_isEnd_56 : decode cX9_isEnd 56 = .ok (.invokevirtual 255, 3) := by decide +kernel
theorem dX9_isEnd_59 : decode cX9_isEnd 59 = .ok (.iconst (-1), 1) := by decide +kernel
theorem dX9_isEnd_60 : decode cX9_isEnd 60 = .ok (.if_icmp .ne 7, 3) := by decide +kernel
theorem dX9_isEnd_63 : decode cX9_isEnd 63 = .ok (.iconst 1, 1) := by decide +kernel
theorem dX9_isEnd_64 : decode cX9_isEnd 64 = .ok (.goto 4, 3) := by decide +kernel
theorem dX9_isEnd_67 : decode cX9_isEnd 67 = .ok (.iconst 0, 1) := by decide +kernel
theorem dX9_isEnd_68 : decode cX9_isEnd 68 = .ok (.istore_n 1, 1) := by decide +kernel
theorem dX9_isEnd_69 : decode cX9_isEnd 69 = .ok (.iinc 2 1, 3) := by decide +kernel
theorem dX9_isEnd_72 : decode cX9_isEnd 72 = .ok (.goto (-47), 3) := by decide +kernel
theorem dX9_isEnd_75 : decode cX9_isEnd 75 = .ok (.iload_n 1, 1) := by decide +kernel
theorem dX9_isEnd_76 : decode cX9_isEnd 76 = .ok (.ireturn, 1) := by decide +kernel
theorem dX9_claimBy_0 : decode cX9_claimBy 0 = .ok (.iconst 0, 1) := by decide +kernel
theorem dX9_claimBy_1 : decode cX9_claimBy 1 = .ok (.istore 4, 2) := by decide +kernel
theorem dX9_claimBy_3 : decode cX9_claimBy 3 = .ok (.iconst 0, 1) := by decide +kernel
theorem dX9_claimBy_4 : decode cX9_claimBy 4 = .ok (.istore 5, 2) := by decide +kernel
theorem dX9_claimBy_6 : decode cX9_claimBy 6 = .ok (.iload 5, 2) := by decide +kernel
theorem dX9_claimBy_8 : decode cX9_claimBy 8 = .ok (.iconst 4, 1) := by decide +kernel
theorem dX9_claimBy_9 : decode cX9_claimBy 9 = .ok (.if_icmp .ge 78, 3) := by decide +kernel
theorem dX9_claimBy_12 : decode cX9_claimBy 12 = .ok (.aload_n 0, 1) := by decide +kernel
theorem dX9_claimBy_13 : decode cX9_claimBy 13 = .ok (.getfield 40, 3) := by decide +kernel
theorem dX9_claimBy_16 : decode cX9_claimBy 16 = .ok (.iload 5, 2) := by decide +kernel
theorem dX9_claimBy_18 : decode cX9_claimBy 18 = .ok (.aaload, 1) := by decide +kernel
theorem dX9_claimBy_19 : decode cX9_claimBy 19 = .ok (.astore 6, 2) := by decide +kernel
theorem dX9_claimBy_21 : decode cX9_claimBy 21 = .ok (.iload 4, 2) := by decide +kernel
theorem dX9_claimBy_23 : decode cX9_claimBy 23 = .ok (.aload 6, 2) := by decide +kernel
theorem dX9_claimBy_25 : decode cX9_claimBy 25 = .ok (.getfield 110, 3) := by decide +kernel
theorem dX9_claimBy_28 : decode cX9_claimBy 28 = .ok (.invokestatic 259, 3) := by decide +kernel
theorem dX9_claimBy_31 : decode cX9_claimBy 31 = .ok (.istore 4, 2) := by decide +kernel
theorem dX9_claimBy_33 : decode cX9_claimBy 33 = .ok (.iconst 0, 1) := by decide +kernel
theorem dX9_claimBy_34 : decode cX9_claimBy 34 = .ok (.istore 7, 2) := by decide +kernel
theorem dX9_claimBy_36 : decode cX9_claimBy 36 = .ok (.iload 7, 2) := by decide +kernel
theorem dX9_claimBy_38 : decode cX9_claimBy 38 = .ok (.aload 6, 2) := by decide +kernel
theorem dX9_claimBy_40 : decode cX9_claimBy 40 = .ok (.getfield 110, 3) := by decide +kernel
theorem dX9_claimBy_43 : decode cX9_claimBy 43 = .ok (.if_icmp .ge 24, 3) := by decide +kernel
theorem dX9_claimBy_46 : decode cX9_claimBy 46 = .ok (.aload_n 0, 1) := by decide +kernel
theorem dX9_claimBy_47 : decode cX9_claimBy 47 = .ok (.aload 6, 2) := by decide +kernel
theorem dX9_claimBy_49 : decode cX9_claimBy 49 = .ok (.iload 7, 2) := by decide +kernel
theorem dX9_claimBy_51 : decode cX9_claimBy 51 = .ok (.invokevirtual 123, 3) := by decide +kernel
theorem dX9_claimBy_54 : decode cX9_claimBy 54 = .ok (.bipush 6, 2) := by decide +kernel
theorem dX9_claimBy_56 : decode cX9_claimBy 56 = .ok (.iload_n 2, 1) := by decide +kernel
theorem dX9_claimBy_57 : decode cX9_claimBy 57 = .ok (.iadd, 1) := by decide +kernel
theorem dX9_claimBy_58 : decode cX9_claimBy 58 = .ok (.invokevirtual 127, 3) := by decide +kernel
theorem dX9_claimBy_61 : decode cX9_claimBy 61 = .ok (.iinc 7 1, 3) := by decide +kernel
theorem dX9_claimBy_64 : decode cX9_claimBy 64 = .ok (.goto (-28), 3) := by decide +kernel
theorem dX9_claimBy_67 : decode cX9_claimBy 67 = .ok (.aload 6, 2) := by decide +kernel
theorem dX9_claimBy_69 : decode cX9_claimBy 69 = .ok (.aload 6, 2) := by decide +kernel
theorem dX9_claimBy_71 : decode cX9_claimBy 71 = .ok (.getfield 110, 3) := by decide +kernel
theorem dX9_claimBy_74 : decode cX9_claimBy 74 = .ok (.iconst 0, 1) := by decide +kernel
theorem dX9_claimBy_75 : decode cX9_claimBy 75 = .ok (.invokestatic 55, 3) := by decide +kernel
theorem dX9_claimBy_78 : decode cX9_claimBy 78 = .ok (.putfield 110, 3) := by decide +kernel
theorem dX9_claimBy_81 : decode cX9_claimBy 81 = .ok (.iinc 5 1, 3) := by decide +kernel
theorem dX9_claimBy_84 : decode cX9_claimBy 84 = .ok (.goto (-78), 3) := by decide +kernel
theorem dX9_claimBy_87 : decode cX9_claimBy 87 = .ok (.aload_n 0, 1) := by decide +kernel
theorem dX9_claimBy_88 : decode cX9_claimBy 88 = .ok (.getfield 47, 3) := by decide +kernel
theorem dX9_claimBy_91 : decode cX9_claimBy 91 = .ok (.getfield 262, 3) := by decide +kernel
theorem dX9_claimBy_94 : decode cX9_claimBy 94 = .ok (.iload_n 2, 1) := by decide +kernel
theorem dX9_claimBy_95 : decode cX9_claimBy 95 = .ok (.dup2, 1) := by decide +kernel
theorem dX9_claimBy_96 : decode cX9_claimBy 96 = .ok (.iaload, 1) := by decide +kernel
theorem dX9_claimBy_97 : decode cX9_claimBy 97 = .ok (.iload_n 3, 1) := by decide +kernel
theorem dX9_claimBy_98 : decode cX9_claimBy 98 = .ok (.iadd, 1) := by decide +kernel
theorem dX9_claimBy_99 : decode cX9_claimBy 99 = .ok (.iastore, 1) := by decide +kernel
theorem dX9_claimBy_100 : decode cX9_claimBy 100 = .ok (.aload_n 0, 1) := by decide +kernel
theorem dX9_claimBy_101 : decode cX9_claimBy 101 = .ok (.getfield 47, 3) := by decide +kernel
theorem dX9_claimBy_104 : decode cX9_claimBy 104 = .ok (.getfield 238, 3) := by decide +kernel
theorem dX9_claimBy_107 : decode cX9_claimBy 107 = .ok (.iload_n 2, 1) := by decide +kernel
theorem dX9_claimBy_108 : decode cX9_claimBy 108 = .ok (.dup2, 1) := by decide +kernel
theorem dX9_claimBy_109 : decode cX9_claimBy 109 = .ok (.iaload, 1) := by decide +kernel
theorem dX9_claimBy_110 : decode cX9_claimBy 110 = .ok (.iload_n 3, 1) := by decide +kernel
theorem dX9_claimBy_111 : decode cX9_claimBy 111 = .ok (.iadd, 1) := by decide +kernel
theorem dX9_claimBy_112 : decode cX9_claimBy 112 = .ok (.iastore, 1) := by decide +kernel
theorem dX9_claimBy_113 : decode cX9_claimBy 113 = .ok (.aload_n 0, 1) := by decide +kernel
theorem dX9_claimBy_114 : decode cX9_claimBy 114 = .ok (.getfield 47, 3) := by decide +kernel
theorem dX9_claimBy_117 : decode cX9_claimBy 117 = .ok (.getfield 262, 3) := by decide +kernel
theorem dX9_claimBy_120 : decode cX9_claimBy 120 = .ok (.iconst 1, 1) := by decide +kernel
theorem dX9_claimBy_121 : decode cX9_claimBy 121 = .ok (.iload_n 2, 1) := by decide +kernel
theorem dX9_claimBy_122 : decode cX9_claimBy 122 = .ok (.isub, 1) := by decide +kernel
theorem dX9_claimBy_123 : decode cX9_claimBy 123 = .ok (.dup2, 1) := by decide +kernel
theorem dX9_claimBy_124 : decode cX9_claimBy 124 = .ok (.iaload, 1) := by decide +kernel
theorem dX9_claimBy_125 : decode cX9_claimBy 125 = .ok (.iload 4, 2) := by decide +kernel
theorem dX9_claimBy_127 : decode cX9_claimBy 127 = .ok (.iload_n 3, 1) := by decide +kernel
theorem dX9_claimBy_128 : decode cX9_claimBy 128 = .ok (.isub, 1) := by decide +kernel
theorem dX9_claimBy_129 : decode cX9_claimBy 129 = .ok (.iadd, 1) := by decide +kernel
theorem dX9_claimBy_130 : decode cX9_claimBy 130 = .ok (.iastore, 1) := by decide +kernel
theorem dX9_claimBy_131 : decode cX9_claimBy 131 = .ok (.aload_n 0, 1) := by decide +kernel
theorem dX9_claimBy_132 : decode cX9_claimBy 132 = .ok (.getfield 47, 3) := by decide +kernel
theorem dX9_claimBy_135 : decode cX9_claimBy 135 = .ok (.getfield 238, 3) := by decide +kernel
theorem dX9_claimBy_138 : decode cX9_claimBy 138 = .ok (.iconst 1, 1) := by decide +kernel
theorem dX9_claimBy_139 : decode cX9_claimBy 139 = .ok (.iload_n 2, 1) := by decide +kernel
theorem dX9_claimBy_140 : decode cX9_claimBy 140 = .ok (.isub, 1) := by decide +kernel
theorem dX9_claimBy_141 : decode cX9_claimBy 141 = .ok (.dup2, 1) := by decide +kernel
theorem dX9_claimBy_142 : decode cX9_claimBy 142 = .ok (.iaload, 1) := by decide +kernel
theorem dX9_claimBy_143 : decode cX9_claimBy 143 = .ok (.iload 4, 2) := by decide +kernel
theorem dX9_claimBy_145 : decode cX9_claimBy 145 = .ok (.iload_n 3, 1) := by decide +kernel
theorem dX9_claimBy_146 : decode cX9_claimBy 146 = .ok (.isub, 1) := by decide +kernel
theorem dX9_claimBy_147 : decode cX9_claimBy 147 = .ok (.iadd, 1) := by decide +kernel
theorem dX9_claimBy_148 : decode cX9_claimBy 148 = .ok (.iastore, 1) := by decide +kernel
theorem dX9_claimBy_149 : decode cX9_claimBy 149 = .ok (.aload_n 0, 1) := by decide +kernel
theorem dX9_claimBy_150 : decode cX9_claimBy 150 = .ok (.aload_n 1, 1) := by decide +kernel
theorem dX9_claimBy_151 : decode cX9_claimBy 151 = .ok (.invokevirtual 234, 3) := by decide +kernel
theorem dX9_claimBy_154 : decode cX9_claimBy 154 = .ok (.return_, 1) := by decide +kernel
theorem dX9_isLike_0 : decode cX9_isLike 0 = .ok (.aload_n 0, 1) := by decide +kernel
theorem dX9_isLike_1 : decode cX9_isLike 1 = .ok (.getfield 30, 3) := by decide +kernel
theorem dX9_isLike_4 : decode cX9_isLike 4 = .ok (.aload_n 1, 1) := by decide +kernel
theorem dX9_isLike_5 : decode cX9_isLike 5 = .ok (.getfield 30, 3) := by decide +kernel
theorem dX9_isLike_8 : decode cX9_isLike 8 = .ok (.invokevirtual 265, 3) := by decide +kernel
theorem dX9_isLike_11 : decode cX9_isLike 11 = .ok (.istore_n 2, 1) := by decide +kernel
theorem dX9_isLike_12 : decode cX9_isLike 12 = .ok (.iconst 0, 1) := by decide +kernel
theorem dX9_isLike_13 : decode cX9_isLike 13 = .ok (.istore_n 3, 1) := by decide +kernel
theorem dX9_isLike_14 : decode cX9_isLike 14 = .ok (.iload_n 3, 1) := by decide +kernel
theorem dX9_isLike_15 : decode cX9_isLike 15 = .ok (.iconst 2, 1) := by decide +kernel
theorem dX9_isLike_16 : decode cX9_isLike 16 = .ok (.if_icmp .ge 71, 3) := by decide +kernel
theorem dX9_isLike_19 : decode cX9_isLike 19 = .ok (.iload_n 2, 1) := by decide +kernel
theorem dX9_isLike_20 : decode cX9_isLike 20 = .ok (.ifCond .eq 28, 3) := by decide +kernel
theorem dX9_isLike_23 : decode cX9_isLike 23 = .ok (.aload_n 0, 1) := by decide +kernel
theorem dX9_isLike_24 : decode cX9_isLike 24 = .ok (.getfield 47, 3) := by decide +kernel
theorem dX9_isLike_27 : decode cX9_isLike 27 = .ok (.getfield 262, 3) := by decide +kernel
theorem dX9_isLike_30 : decode cX9_isLike 30 = .ok (.iload_n 3, 1) := by decide +kernel
theorem dX9_isLike_31 : decode cX9_isLike 31 = .ok (.iaload, 1) := by decide +kernel
