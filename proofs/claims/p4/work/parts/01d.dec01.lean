theorem dX9_isLike_32 : decode cX9_isLike 32 = .ok (.aload_n 1, 1) := by decide +kernel
theorem dX9_isLike_33 : decode cX9_isLike 33 = .ok (.getfield 47, 3) := by decide +kernel
theorem dX9_isLike_36 : decode cX9_isLike 36 = .ok (.getfield 262, 3) := by decide +kernel
theorem dX9_isLike_39 : decode cX9_isLike 39 = .ok (.iload_n 3, 1) := by decide +kernel
theorem dX9_isLike_40 : decode cX9_isLike 40 = .ok (.iaload, 1) := by decide +kernel
theorem dX9_isLike_41 : decode cX9_isLike 41 = .ok (.if_icmp .ne 7, 3) := by decide +kernel
theorem dX9_isLike_44 : decode cX9_isLike 44 = .ok (.iconst 1, 1) := by decide +kernel
theorem dX9_isLike_45 : decode cX9_isLike 45 = .ok (.goto 4, 3) := by decide +kernel
theorem dX9_isLike_48 : decode cX9_isLike 48 = .ok (.iconst 0, 1) := by decide +kernel
theorem dX9_isLike_49 : decode cX9_isLike 49 = .ok (.istore_n 2, 1) := by decide +kernel
theorem dX9_isLike_50 : decode cX9_isLike 50 = .ok (.iload_n 2, 1) := by decide +kernel
theorem dX9_isLike_51 : decode cX9_isLike 51 = .ok (.ifCond .eq 28, 3) := by decide +kernel
theorem dX9_isLike_54 : decode cX9_isLike 54 = .ok (.aload_n 0, 1) := by decide +kernel
theorem dX9_isLike_55 : decode cX9_isLike 55 = .ok (.getfield 47, 3) := by decide +kernel
theorem dX9_isLike_58 : decode cX9_isLike 58 = .ok (.getfield 238, 3) := by decide +kernel
theorem dX9_isLike_61 : decode cX9_isLike 61 = .ok (.iload_n 3, 1) := by decide +kernel
theorem dX9_isLike_62 : decode cX9_isLike 62 = .ok (.iaload, 1) := by decide +kernel
theorem dX9_isLike_63 : decode cX9_isLike 63 = .ok (.aload_n 1, 1) := by decide +kernel
theorem dX9_isLike_64 : decode cX9_isLike 64 = .ok (.getfield 47, 3) := by decide +kernel
theorem dX9_isLike_67 : decode cX9_isLike 67 = .ok (.getfield 238, 3) := by decide +kernel
theorem dX9_isLike_70 : decode cX9_isLike 70 = .ok (.iload_n 3, 1) := by decide +kernel
theorem dX9_isLike_71 : decode cX9_isLike 71 = .ok (.iaload, 1) := by decide +kernel
theorem dX9_isLike_72 : decode cX9_isLike 72 = .ok (.if_icmp .ne 7, 3) := by decide +kernel
theorem dX9_isLike_75 : decode cX9_isLike 75 = .ok (.iconst 1, 1) := by decide +kernel
theorem dX9_isLike_76 : decode cX9_isLike 76 = .ok (.goto 4, 3) := by decide +kernel
theorem dX9_isLike_79 : decode cX9_isLike 79 = .ok (.iconst 0, 1) := by decide +kernel
theorem dX9_isLike_80 : decode cX9_isLike 80 = .ok (.istore_n 2, 1) := by decide +kernel
theorem dX9_isLike_81 : decode cX9_isLike 81 = .ok (.iinc 3 1, 3) := by decide +kernel
theorem dX9_isLike_84 : decode cX9_isLike 84 = .ok (.goto (-70), 3) := by decide +kernel
theorem dX9_isLike_87 : decode cX9_isLike 87 = .ok (.iconst 0, 1) := by decide +kernel
theorem dX9_isLike_88 : decode cX9_isLike 88 = .ok (.istore_n 3, 1) := by decide +kernel
theorem dX9_isLike_89 : decode cX9_isLike 89 = .ok (.iload_n 3, 1) := by decide +kernel
theorem dX9_isLike_90 : decode cX9_isLike 90 = .ok (.iconst 4, 1) := by decide +kernel
theorem dX9_isLike_91 : decode cX9_isLike 91 = .ok (.if_icmp .ge 37, 3) := by decide +kernel
theorem dX9_isLike_94 : decode cX9_isLike 94 = .ok (.iload_n 2, 1) := by decide +kernel
theorem dX9_isLike_95 : decode cX9_isLike 95 = .ok (.ifCond .eq 25, 3) := by decide +kernel
theorem dX9_isLike_98 : decode cX9_isLike 98 = .ok (.aload_n 0, 1) := by decide +kernel
theorem dX9_isLike_99 : decode cX9_isLike 99 = .ok (.getfield 40, 3) := by decide +kernel
theorem dX9_isLike_102 : decode cX9_isLike 102 = .ok (.iload_n 3, 1) := by decide +kernel
theorem dX9_isLike_103 : decode cX9_isLike 103 = .ok (.aaload, 1) := by decide +kernel
theorem dX9_isLike_104 : decode cX9_isLike 104 = .ok (.aload_n 1, 1) := by decide +kernel
theorem dX9_isLike_105 : decode cX9_isLike 105 = .ok (.getfield 40, 3) := by decide +kernel
theorem dX9_isLike_108 : decode cX9_isLike 108 = .ok (.iload_n 3, 1) := by decide +kernel
theorem dX9_isLike_109 : decode cX9_isLike 109 = .ok (.aaload, 1) := by decide +kernel
theorem dX9_isLike_110 : decode cX9_isLike 110 = .ok (.invokevirtual 265, 3) := by decide +kernel
theorem dX9_isLike_113 : decode cX9_isLike 113 = .ok (.ifCond .eq 7, 3) := by decide +kernel
theorem dX9_isLike_116 : decode cX9_isLike 116 = .ok (.iconst 1, 1) := by decide +kernel
theorem dX9_isLike_117 : decode cX9_isLike 117 = .ok (.goto 4, 3) := by decide +kernel
theorem dX9_isLike_120 : decode cX9_isLike 120 = .ok (.iconst 0, 1) := by decide +kernel
theorem dX9_isLike_121 : decode cX9_isLike 121 = .ok (.istore_n 2, 1) := by decide +kernel
theorem dX9_isLike_122 : decode cX9_isLike 122 = .ok (.iinc 3 1, 3) := by decide +kernel
theorem dX9_isLike_125 : decode cX9_isLike 125 = .ok (.goto (-36), 3) := by decide +kernel
theorem dX9_isLike_128 : decode cX9_isLike 128 = .ok (.iload_n 2, 1) := by decide +kernel
theorem dX9_isLike_129 : decode cX9_isLike 129 = .ok (.ireturn, 1) := by decide +kernel
theorem dX10_init_0 : decode cX10_init 0 = .ok (.aload_n 0, 1) := by decide +kernel
theorem dX10_init_1 : decode cX10_init 1 = .ok (.iconst 2, 1) := by decide +kernel
theorem dX10_init_2 : decode cX10_init 2 = .ok (.invokespecial 3, 3) := by decide +kernel
theorem dX10_init_5 : decode cX10_init 5 = .ok (.return_, 1) := by decide +kernel
theorem dX10_allows_0 : decode cX10_allows 0 = .ok (.aload_n 1, 1) := by decide +kernel
theorem dX10_allows_1 : decode cX10_allows 1 = .ok (.bipush 23, 2) := by decide +kernel
theorem dX10_allows_3 : decode cX10_allows 3 = .ok (.invokevirtual 9, 3) := by decide +kernel
theorem dX10_allows_6 : decode cX10_allows 6 = .ok (.aload_n 0, 1) := by decide +kernel
theorem dX10_allows_7 : decode cX10_allows 7 = .ok (.aload_n 1, 1) := by decide +kernel
theorem dX10_allows_8 : decode cX10_allows 8 = .ok (.aload_n 2, 1) := by decide +kernel
theorem dX10_allows_9 : decode cX10_allows 9 = .ok (.aload_n 3, 1) := by decide +kernel
theorem dX10_allows_10 : decode cX10_allows 10 = .ok (.aload 4, 2) := by decide +kernel
theorem dX10_allows_12 : decode cX10_allows 12 = .ok (.iload 5, 2) := by decide +kernel
theorem dX10_allows_14 : decode cX10_allows 14 = .ok (.invokespecial 14, 3) := by decide +kernel
theorem dX10_allows_17 : decode cX10_allows 17 = .ok (.istore 6, 2) := by decide +kernel
theorem dX10_allows_19 : decode cX10_allows 19 = .ok (.iload 6, 2) := by decide +kernel
theorem dX10_allows_21 : decode cX10_allows 21 = .ok (.ifCond .ne 21, 3) := by decide +kernel
theorem dX10_allows_24 : decode cX10_allows 24 = .ok (.aload 4, 2) := by decide +kernel
theorem dX10_allows_26 : decode cX10_allows 26 = .ok (.getfield 18, 3) := by decide +kernel
theorem dX10_allows_29 : decode cX10_allows 29 = .ok (.ifCond .ne 13, 3) := by decide +kernel
theorem dX10_allows_32 : decode cX10_allows 32 = .ok (.aload_n 2, 1) := by decide +kernel
theorem dX10_allows_33 : decode cX10_allows 33 = .ok (.iload 5, 2) := by decide +kernel
theorem dX10_allows_35 : decode cX10_allows 35 = .ok (.invokevirtual 24, 3) := by decide +kernel
theorem dX10_allows_38 : decode cX10_allows 38 = .ok (.iconst 3, 1) := by decide +kernel
theorem dX10_allows_39 : decode cX10_allows 39 = .ok (.if_icmp .eq 6, 3) := by decide +kernel
theorem dX10_allows_42 : decode cX10_allows 42 = .ok (.iload 6, 2) := by decide +kernel
theorem dX10_allows_44 : decode cX10_allows 44 = .ok (.ireturn, 1) := by decide +kernel
theorem dX10_allows_45 : decode cX10_allows 45 = .ok (.iconst 0, 1) := by decide +kernel
theorem dX10_allows_46 : decode cX10_allows 46 = .ok (.istore 7, 2) := by decide +kernel
theorem dX10_allows_48 : decode cX10_allows 48 = .ok (.iload 7, 2) := by decide +kernel
theorem dX10_allows_50 : decode cX10_allows 50 = .ok (.aload_n 3, 1) := by decide +kernel
theorem dX10_allows_51 : decode cX10_allows 51 = .ok (.getfield 18, 3) := by decide +kernel
theorem dX10_allows_54 : decode cX10_allows 54 = .ok (.if_icmp .ge 36, 3) := by decide +kernel
theorem dX10_allows_57 : decode cX10_allows 57 = .ok (.aload_n 2, 1) := by decide +kernel
theorem dX10_allows_58 : decode cX10_allows 58 = .ok (.aload_n 3, 1) := by decide +kernel
theorem dX10_allows_59 : decode cX10_allows 59 = .ok (.iload 7, 2) := by decide +kernel
theorem dX10_allows_61 : decode cX10_allows 61 = .ok (.invokevirtual 30, 3) := by decide +kernel
theorem dX10_allows_64 : decode cX10_allows 64 = .ok (.invokevirtual 24, 3) := by decide +kernel
theorem dX10_allows_67 : decode cX10_allows 67 = .ok (.istore 8, 2) := by decide +kernel
theorem dX10_allows_69 : decode cX10_allows 69 = .ok (.iload 8, 2) := by decide +kernel
theorem dX10_allows_71 : decode cX10_allows 71 = .ok (.iconst 3, 1) := by decide +kernel
theorem dX10_allows_72 : decode cX10_allows 72 = .ok (.if_icmp .eq 12, 3) := by decide +kernel
theorem dX10_allows_75 : decode cX10_allows 75 = .ok (.iload 8, 2) := by decide +kernel
theorem dX10_allows_77 : decode cX10_allows 77 = .ok (.bipush 6, 2) := by decide +kernel
theorem dX10_allows_79 : decode cX10_allows 79 = .ok (.if_icmp .eq 5, 3) := by decide +kernel
theorem dX10_allows_82 : decode cX10_allows 82 = .ok (.iconst 3, 1) := by decide +kernel
theorem dX10_allows_83 : decode cX10_allows 83 = .ok (.ireturn, 1) := by decide +kernel
theorem dX10_allows_84 : decode cX10_allows 84 = .ok (.iinc 7 1, 3) := by decide +kernel
theorem dX10_allows_87 : decode cX10_allows 87 = .ok (.goto (-39), 3) := by decide +kernel
theorem dX10_allows_90 : decode cX10_allows 90 = .ok (.iconst 0, 1) := by decide +kernel
theorem dX10_allows_91 : decode cX10_allows 91 = .ok (.ireturn, 1) := by decide +kernel
theorem dX10_wins_0 : decode cX10_wins 0 = .ok (.aload_n 1, 1) := by decide +kernel
theorem dX10_wins_1 : decode cX10_wins 1 = .ok (.bipush 32, 2) := by decide +kernel
theorem dX10_wins_3 : decode cX10_wins 3 = .ok (.invokevirtual 9, 3) := by decide +kernel
theorem dX10_wins_6 : decode cX10_wins 6 = .ok (.aload_n 2, 1) := by decide +kernel
theorem dX10_wins_7 : decode cX10_wins 7 = .ok (.aload_n 3, 1) := by decide +kernel
theorem dX10_wins_8 : decode cX10_wins 8 = .ok (.iconst 0, 1) := by decide +kernel
theorem dX10_wins_9 : decode cX10_wins 9 = .ok (.invokevirtual 30, 3) := by decide +kernel
theorem dX10_wins_12 : decode cX10_wins 12 = .ok (.invokevirtual 24, 3) := by decide +kernel
theorem dX10_wins_15 : decode cX10_wins 15 = .ok (.istore 4, 2) := by decide +kernel
theorem dX10_wins_17 : decode cX10_wins 17 = .ok (.iload 4, 2) := by decide +kernel
theorem dX10_wins_19 : decode cX10_wins 19 = .ok (.iconst 5, 1) := by decide +kernel
theorem dX10_wins_20 : decode cX10_wins 20 = .ok (.if_icmp .ne 7, 3) := by decide +kernel
theorem dX10_wins_23 : decode cX10_wins 23 = .ok (.iconst 0, 1) := by decide +kernel
theorem dX10_wins_24 : decode cX10_wins 24 = .ok (.goto 12, 3) := by decide +kernel
theorem dX10_wins_27 : decode cX10_wins 27 = .ok (.aload_n 2, 1) := by decide +kernel
theorem dX10_wins_28 : decode cX10_wins 28 = .ok (.aload_n 3, 1) := by decide +kernel
theorem dX10_wins_29 : decode cX10_wins 29 = .ok (.iload 4, 2) := by decide +kernel
theorem dX10_wins_31 : decode cX10_wins 31 = .ok (.iload 4, 2) := by decide +kernel
theorem dX10_wins_33 : decode cX10_wins 33 = .ok (.invokevirtual 33, 3) := by decide +kernel
theorem dX10_wins_36 : decode cX10_wins 36 = .ok (.ireturn, 1) := by decide +kernel
theorem dX10_score_0 : decode cX10_score 0 = .ok (.aload_n 1, 1) := by decide +kernel
theorem dX10_score_1 : decode cX10_score 1 = .ok (.bipush 43, 2) := by decide +kernel
theorem dX10_score_3 : decode cX10_score 3 = .ok (.invokevirtual 9, 3) := by decide +kernel
theorem dX10_score_6 : decode cX10_score 6 = .ok (.iconst 0, 1) := by decide +kernel
theorem dX10_score_7 : decode cX10_score 7 = .ok (.istore 5, 2) := by decide +kernel
theorem dX10_score_9 : decode cX10_score 9 = .ok (.iconst 0, 1) := by decide +kernel
theorem dX10_score_10 : decode cX10_score 10 = .ok (.istore 6, 2) := by decide +kernel
theorem dX10_score_12 : decode cX10_score 12 = .ok (.iload 6, 2) := by decide +kernel
theorem dX10_score_14 : decode cX10_score 14 = .ok (.aload_n 3, 1) := by decide +kernel
theorem dX10_score_15 : decode cX10_score 15 = .ok (.getfield 18, 3) := by decide +kernel
theorem dX10_score_18 : decode cX10_score 18 = .ok (.if_icmp .ge 31, 3) := by decide +kernel
theorem dX10_score_21 : decode cX10_score 21 = .ok (.iload 5, 2) := by decide +kernel
theorem dX10_score_23 : decode cX10_score 23 = .ok (.aload_n 3, 1) := by decide +kernel
theorem dX10_score_24 : decode cX10_score 24 = .ok (.iload 6, 2) := by decide +kernel
theorem dX10_score_26 : decode cX10_score 26 = .ok (.invokevirtual 30, 3) := by decide +kernel
theorem dX10_score_29 : decode cX10_score 29 = .ok (.iconst 3, 1) := by decide +kernel
theorem dX10_score_30 : decode cX10_score 30 = .ok (.iand, 1) := by decide +kernel
theorem dX10_score_31 : decode cX10_score 31 = .ok (.iconst 3, 1) := by decide +kernel
theorem dX10_score_32 : decode cX10_score 32 = .ok (.if_icmp .ne 7, 3) := by decide +kernel
theorem dX10_score_35 : decode cX10_score 35 = .ok (.iconst 1, 1) := by decide +kernel
theorem dX10_score_36 : decode cX10_score 36 = .ok (.goto 4, 3) := by decide +kernel
theorem dX10_score_39 : decode cX10_score 39 = .ok (.iconst 0, 1) := by decide +kernel
theorem dX10_score_40 : decode cX10_score 40 = .ok (.isub, 1) := by decide +kernel
theorem dX10_score_41 : decode cX10_score 41 = .ok (.istore 5, 2) := by decide +kernel
theorem dX10_score_43 : decode cX10_score 43 = .ok (.iinc 6 1, 3) := by decide +kernel
theorem dX10_score_46 : decode cX10_score 46 = .ok (.goto (-34), 3) := by decide +kernel
theorem dX10_score_49 : decode cX10_score 49 = .ok (.iload 5, 2) := by decide +kernel
theorem dX10_score_51 : decode cX10_score 51 = .ok (.ireturn, 1) := by decide +kernel
theorem dX11_init_0 : decode cX11_init 0 = .ok (.aload_n 0, 1) := by decide +kernel
theorem dX11_init_1 : decode cX11_init 1 = .ok (.invokespecial 1, 3) := by decide +kernel
theorem dX11_init_4 : decode cX11_init 4 = .ok (.aload_n 0, 1) := by decide +kernel
theorem dX11_init_5 : decode cX11_init 5 = .ok (.bipush 6, 2) := by decide +kernel
theorem dX11_init_7 : decode cX11_init 7 = .ok (.anewarray 9, 3) := by decide +kernel
theorem dX11_init_10 : decode cX11_init 10 = .ok (.putfield 11, 3) := by decide +kernel
theorem dX11_init_13 : decode cX11_init 13 = .ok (.aload_n 0, 1) := by decide +kernel
theorem dX11_init_14 : decode cX11_init 14 = .ok (.iconst 4, 1) := by decide +kernel
theorem dX11_init_15 : decode cX11_init 15 = .ok (.anewarray 15, 3) := by decide +kernel
theorem dX11_init_18 : decode cX11_init 18 = .ok (.putfield 17, 3) := by decide +kernel
theorem dX11_init_21 : decode cX11_init 21 = .ok (.aload_n 0, 1) := by decide +kernel
theorem dX11_init_22 : decode cX11_init 22 = .ok (.bipush 32, 2) := by decide +kernel
theorem dX11_init_24 : decode cX11_init 24 = .ok (.anewarray 15, 3) := by decide +kernel
theorem dX11_init_27 : decode cX11_init 27 = .ok (.putfield 21, 3) := by decide +kernel
theorem dX11_init_30 : decode cX11_init 30 = .ok (.iconst 0, 1) := by decide +kernel
theorem dX11_init_31 : decode cX11_init 31 = .ok (.istore_n 1, 1) := by decide +kernel
theorem dX11_init_32 : decode cX11_init 32 = .ok (.iload_n 1, 1) := by decide +kernel
theorem dX11_init_33 : decode cX11_init 33 = .ok (.iconst 4, 1) := by decide +kernel
theorem dX11_init_34 : decode cX11_init 34 = .ok (.if_icmp .ge 23, 3) := by decide +kernel
theorem dX11_init_37 : decode cX11_init 37 = .ok (.aload_n 0, 1) := by decide +kernel
theorem dX11_init_38 : decode cX11_init 38 = .ok (.getfield 17, 3) := by decide +kernel
theorem dX11_init_41 : decode cX11_init 41 = .ok (.iload_n 1, 1) := by decide +kernel
theorem dX11_init_42 : decode cX11_init 42 = .ok (.new 15, 3) := by decide +kernel
theorem dX11_init_45 : decode cX11_init 45 = .ok (.dup, 1) := by decide +kernel
theorem dX11_init_46 : decode cX11_init 46 = .ok (.iload_n 1, 1) := by decide +kernel
theorem dX11_init_47 : decode cX11_init 47 = .ok (.invokespecial 24, 3) := by decide +kernel
theorem dX11_init_50 : decode cX11_init 50 = .ok (.aastore, 1) := by decide +kernel
theorem dX11_init_51 : decode cX11_init 51 = .ok (.iinc 1 1, 3) := by decide +kernel
theorem dX11_init_54 : decode cX11_init 54 = .ok (.goto (-22), 3) := by decide +kernel
theorem dX11_init_57 : decode cX11_init 57 = .ok (.iconst 0, 1) := by decide +kernel
theorem dX11_init_58 : decode cX11_init 58 = .ok (.istore_n 1, 1) := by decide +kernel
theorem dX11_init_59 : decode cX11_init 59 = .ok (.iload_n 1, 1) := by decide +kernel
theorem dX11_init_60 : decode cX11_init 60 = .ok (.bipush 32, 2) := by decide +kernel
theorem dX11_init_62 : decode cX11_init 62 = .ok (.if_icmp .ge 23, 3) := by decide +kernel
theorem dX11_init_65 : decode cX11_init 65 = .ok (.aload_n 0, 1) := by decide +kernel
theorem dX11_init_66 : decode cX11_init 66 = .ok (.getfield 21, 3) := by decide +kernel
theorem dX11_init_69 : decode cX11_init 69 = .ok (.iload_n 1, 1) := by decide +kernel
theorem dX11_init_70 : decode cX11_init 70 = .ok (.new 15, 3) := by decide +kernel
theorem dX11_init_73 : decode cX11_init 73 = .ok (.dup, 1) := by decide +kernel
theorem dX11_init_74 : decode cX11_init 74 = .ok (.iconst (-1), 1) := by decide +kernel
theorem dX11_init_75 : decode cX11_init 75 = .ok (.invokespecial 24, 3) := by decide +kernel
theorem dX11_init_78 : decode cX11_init 78 = .ok (.aastore, 1) := by decide +kernel
theorem dX11_init_79 : decode cX11_init 79 = .ok (.iinc 1 1, 3) := by decide +kernel
theorem dX11_init_82 : decode cX11_init 82 = .ok (.goto (-23), 3) := by decide +kernel
theorem dX11_init_85 : decode cX11_init 85 = .ok (.aload_n 0, 1) := by decide +kernel
theorem dX11_init_86 : decode cX11_init 86 = .ok (.iconst 4, 1) := by decide +kernel
theorem dX11_init_87 : decode cX11_init 87 = .ok (.newarray .int, 2) := by decide +kernel
theorem dX11_init_89 : decode cX11_init 89 = .ok (.putfield 27, 3) := by decide +kernel
theorem dX11_init_92 : decode cX11_init 92 = .ok (.aload_n 0, 1) := by decide +kernel
theorem dX11_init_93 : decode cX11_init 93 = .ok (.iconst 4, 1) := by decide +kernel
theorem dX11_init_94 : decode cX11_init 94 = .ok (.newarray .int, 2) := by decide +kernel
theorem dX11_init_96 : decode cX11_init 96 = .ok (.putfield 31, 3) := by decide +kernel
theorem dX11_init_99 : decode cX11_init 99 = .ok (.aload_n 0, 1) := by decide +kernel
theorem dX11_init_100 : decode cX11_init 100 = .ok (.new 15, 3) := by decide +kernel
theorem dX11_init_103 : decode cX11_init 103 = .ok (.dup, 1) := by decide +kernel
theorem dX11_init_104 : decode cX11_init 104 = .ok (.iconst (-1), 1) := by decide +kernel
theorem dX11_init_105 : decode cX11_init 105 = .ok (.invokespecial 24, 3) := by decide +kernel
theorem dX11_init_108 : decode cX11_init 108 = .ok (.putfield 34, 3) := by decide +kernel
theorem dX11_init_111 : decode cX11_init 111 = .ok (.aload_n 0, 1) := by decide +kernel
theorem dX11_init_112 : decode cX11_init 112 = .ok (.new 38, 3) := by decide +kernel
theorem dX11_init_115 : decode cX11_init 115 = .ok (.dup, 1) := by decide +kernel
theorem dX11_init_116 : decode cX11_init 116 = .ok (.iconst 0, 1) := by decide +kernel
theorem dX11_init_117 : decode cX11_init 117 = .ok (.invokespecial 40, 3) := by decide +kernel
theorem dX11_init_120 : decode cX11_init 120 = .ok (.putfield 43, 3) := by decide +kernel
theorem dX11_init_123 : decode cX11_init 123 = .ok (.aload_n 0, 1) := by decide +kernel
theorem dX11_init_124 : decode cX11_init 124 = .ok (.new 38, 3) := by decide +kernel
theorem dX11_init_127 : decode cX11_init 127 = .ok (.dup, 1) := by decide +kernel
theorem dX11_init_128 : decode cX11_init 128 = .ok (.iconst 1, 1) := by decide +kernel
theorem dX11_init_129 : decode cX11_init 129 = .ok (.invokespecial 40, 3) := by decide +kernel
theorem dX11_init_132 : decode cX11_init 132 = .ok (.putfield 47, 3) := by decide +kernel
theorem dX11_init_135 : decode cX11_init 135 = .ok (.aload_n 0, 1) := by decide +kernel
theorem dX11_init_136 : decode cX11_init 136 = .ok (.new 50, 3) := by decide +kernel
theorem dX11_init_139 : decode cX11_init 139 = .ok (.dup, 1) := by decide +kernel
theorem dX11_init_140 : decode cX11_init 140 = .ok (.invokespecial 52, 3) := by decide +kernel
theorem dX11_init_143 : decode cX11_init 143 = .ok (.putfield 53, 3) := by decide +kernel
theorem dX11_init_146 : decode cX11_init 146 = .ok (.return_, 1) := by decide +kernel
theorem dX11_game_0 : decode cX11_game 0 = .ok (.iload_n 2, 1) := by decide +kernel
theorem dX11_game_1 : decode cX11_game 1 = .ok (.iconst 4, 1) := by decide +kernel
theorem dX11_game_2 : decode cX11_game 2 = .ok (.if_icmp .ne 7, 3) := by decide +kernel
theorem dX11_game_5 : decode cX11_game 5 = .ok (.iconst 1, 1) := by decide +kernel
theorem dX11_game_6 : decode cX11_game 6 = .ok (.goto 4, 3) := by decide +kernel
theorem dX11_game_9 : decode cX11_game 9 = .ok (.iconst 0, 1) := by decide +kernel
theorem dX11_game_10 : decode cX11_game 10 = .ok (.istore 5, 2) := by decide +kernel
theorem dX11_game_12 : decode cX11_game 12 = .ok (.iload_n 1, 1) := by decide +kernel
theorem dX11_game_13 : decode cX11_game 13 = .ok (.invokestatic 57, 3) := by decide +kernel
theorem dX11_game_16 : decode cX11_game 16 = .ok (.ifCond .eq 25, 3) := by decide +kernel
theorem dX11_game_19 : decode cX11_game 19 = .ok (.iload 5, 2) := by decide +kernel
theorem dX11_game_21 : decode cX11_game 21 = .ok (.ifCond .eq 23, 3) := by decide +kernel
theorem dX11_game_24 : decode cX11_game 24 = .ok (.aload_n 0, 1) := by decide +kernel
theorem dX11_game_25 : decode cX11_game 25 = .ok (.iload_n 3, 1) := by decide +kernel
theorem dX11_game_26 : decode cX11_game 26 = .ok (.invokevirtual 61, 3) := by decide +kernel
theorem dX11_game_29 : decode cX11_game 29 = .ok (.ifnull 12, 3) := by decide +kernel
theorem dX11_game_32 : decode cX11_game 32 = .ok (.aload_n 0, 1) := by decide +kernel
theorem dX11_game_33 : decode cX11_game 33 = .ok (.iload 4, 2) := by decide +kernel
theorem dX11_game_35 : decode cX11_game 35 = .ok (.invokevirtual 61, 3) := by decide +kernel
theorem dX11_game_38 : decode cX11_game 38 = .ok (.ifnonnull 6, 3) := by decide +kernel
theorem dX11_game_41 : decode cX11_game 41 = .ok (.bipush (-2), 2) := by decide +kernel
theorem dX11_game_43 : decode cX11_game 43 = .ok (.ireturn, 1) := by decide +kernel
theorem dX11_game_44 : decode cX11_game 44 = .ok (.iload_n 2, 1) := by decide +kernel
theorem dX11_game_45 : decode cX11_game 45 = .ok (.ifCond .lt 8, 3) := by decide +kernel
theorem dX11_game_48 : decode cX11_game 48 = .ok (.iload_n 2, 1) := by decide +kernel
theorem dX11_game_49 : decode cX11_game 49 = .ok (.iconst 4, 1) := by decide +kernel
theorem dX11_game_50 : decode cX11_game 50 = .ok (.if_icmp .le 6, 3) := by decide +kernel
theorem dX11_game_53 : decode cX11_game 53 = .ok (.bipush (-3), 2) := by decide +kernel
theorem dX11_game_55 : decode cX11_game 55 = .ok (.ireturn, 1) := by decide +kernel
theorem dX11_game_56 : decode cX11_game 56 = .ok (.iload 5, 2) := by decide +kernel
theorem dX11_game_58 : decode cX11_game 58 = .ok (.ifCond .ne 16, 3) := by decide +kernel
theorem dX11_game_61 : decode cX11_game 61 = .ok (.aload_n 0, 1) := by decide +kernel
theorem dX11_game_62 : decode cX11_game 62 = .ok (.getfield 11, 3) := by decide +kernel
theorem dX11_game_65 : decode cX11_game 65 = .ok (.iload_n 1, 1) := by decide +kernel
theorem dX11_game_66 : decode cX11_game 66 = .ok (.iload_n 2, 1) := by decide +kernel
theorem dX11_game_67 : decode cX11_game 67 = .ok (.invokestatic 65, 3) := by decide +kernel
theorem dX11_game_70 : decode cX11_game 70 = .ok (.aastore, 1) := by decide +kernel
theorem dX11_game_71 : decode cX11_game 71 = .ok (.goto 71, 3) := by decide +kernel
theorem dX11_game_74 : decode cX11_game 74 = .ok (.aload_n 0, 1) := by decide +kernel
theorem dX11_game_75 : decode cX11_game 75 = .ok (.iload_n 3, 1) := by decide +kernel
theorem dX11_game_76 : decode cX11_game 76 = .ok (.invokevirtual 61, 3) := by decide +kernel
theorem dX11_game_79 : decode cX11_game 79 = .ok (.astore 8, 2) := by decide +kernel
theorem dX11_game_81 : decode cX11_game 81 = .ok (.aload 8, 2) := by decide +kernel
theorem dX11_game_83 : decode cX11_game 83 = .ok (.instanceof 68, 3) := by decide +kernel
theorem dX11_game_86 : decode cX11_game 86 = .ok (.ifCond .eq 53, 3) := by decide +kernel
theorem dX11_game_89 : decode cX11_game 89 = .ok (.aload 8, 2) := by decide +kernel
theorem dX11_game_91 : decode cX11_game 91 = .ok (.checkcast 68, 3) := by decide +kernel
theorem dX11_game_94 : decode cX11_game 94 = .ok (.astore 6, 2) := by decide +kernel
theorem dX11_game_96 : decode cX11_game 96 = .ok (.aload_n 0, 1) := by decide +kernel
theorem dX11_game_97 : decode cX11_game 97 = .ok (.iload 4, 2) := by decide +kernel
theorem dX11_game_99 : decode cX11_game 99 = .ok (.invokevirtual 61, 3) := by decide +kernel
theorem dX11_game_102 : decode cX11_game 102 = .ok (.astore 8, 2) := by decide +kernel
theorem dX11_game_104 : decode cX11_game 104 = .ok (.aload 8, 2) := by decide +kernel
theorem dX11_game_106 : decode cX11_game 106 = .ok (.instanceof 68, 3) := by decide +kernel
theorem dX11_game_109 : decode cX11_game 109 = .ok (.ifCond .eq 30, 3) := by decide +kernel
theorem dX11_game_112 : decode cX11_game 112 = .ok (.aload 8, 2) := by decide +kernel
theorem dX11_game_114 : decode cX11_game 114 = .ok (.checkcast 68, 3) := by decide +kernel
theorem dX11_game_117 : decode cX11_game 117 = .ok (.astore 7, 2) := by decide +kernel
theorem dX11_game_119 : decode cX11_game 119 = .ok (.aload_n 0, 1) := by decide +kernel
theorem dX11_game_120 : decode cX11_game 120 = .ok (.getfield 11, 3) := by decide +kernel
theorem dX11_game_123 : decode cX11_game 123 = .ok (.iload_n 1, 1) := by decide +kernel
theorem dX11_game_124 : decode cX11_game 124 = .ok (.new 70, 3) := by decide +kernel
theorem dX11_game_127 : decode cX11_game 127 = .ok (.dup, 1) := by decide +kernel
theorem dX11_game_128 : decode cX11_game 128 = .ok (.aload 6, 2) := by decide +kernel
theorem dX11_game_130 : decode cX11_game 130 = .ok (.aload 7, 2) := by decide +kernel
theorem dX11_game_132 : decode cX11_game 132 = .ok (.invokespecial 72, 3) := by decide +kernel
theorem dX11_game_135 : decode cX11_game 135 = .ok (.aastore, 1) := by decide +kernel
theorem dX11_game_136 : decode cX11_game 136 = .ok (.goto 6, 3) := by decide +kernel
theorem dX11_game_139 : decode cX11_game 139 = .ok (.bipush (-4), 2) := by decide +kernel
theorem dX11_game_141 : decode cX11_game 141 = .ok (.ireturn, 1) := by decide +kernel
theorem dX11_game_142 : decode cX11_game 142 = .ok (.iconst 1, 1) := by decide +kernel
theorem dX11_game_143 : decode cX11_game 143 = .ok (.ireturn, 1) := by decide +kernel
theorem dX11_kindOf_0 : decode cX11_kindOf 0 = .ok (.aload_n 0, 1) := by decide +kernel
theorem dX11_kindOf_1 : decode cX11_kindOf 1 = .ok (.iload_n 1, 1) := by decide +kernel
theorem dX11_kindOf_2 : decode cX11_kindOf 2 = .ok (.invokevirtual 61, 3) := by decide +kernel
theorem dX11_kindOf_5 : decode cX11_kindOf 5 = .ok (.astore_n 2, 1) := by decide +kernel
theorem dX11_kindOf_6 : decode cX11_kindOf 6 = .ok (.aload_n 2, 1) := by decide +kernel
theorem dX11_kindOf_7 : decode cX11_kindOf 7 = .ok (.ifnonnull 8, 3) := by decide +kernel
theorem dX11_kindOf_10 : decode cX11_kindOf 10 = .ok (.bipush (-2), 2) := by decide +kernel
theorem dX11_kindOf_12 : decode cX11_kindOf 12 = .ok (.goto 7, 3) := by decide +kernel
theorem dX11_kindOf_15 : decode cX11_kindOf 15 = .ok (.aload_n 2, 1) := by decide +kernel
theorem dX11_kindOf_16 : decode cX11_kindOf 16 = .ok (.getfield 75, 3) := by decide +kernel
theorem dX11_kindOf_19 : decode cX11_kindOf 19 = .ok (.ireturn, 1) := by decide +kernel
theorem dX11_table_0 : decode cX11_table 0 = .ok (.aload_n 0, 1) := by decide +kernel
theorem dX11_table_1 : decode cX11_table 1 = .ok (.iload_n 3, 1) := by decide +kernel
theorem dX11_table_2 : decode cX11_table 2 = .ok (.invokevirtual 61, 3) := by decide +kernel
theorem dX11_table_5 : decode cX11_table 5 = .ok (.astore 4, 2) := by decide +kernel
theorem dX11_table_7 : decode cX11_table 7 = .ok (.iload_n 1, 1) := by decide +kernel
theorem dX11_table_8 : decode cX11_table 8 = .ok (.ifCond .lt 13, 3) := by decide +kernel
theorem dX11_table_11 : decode cX11_table 11 = .ok (.iload_n 1, 1) := by decide +kernel
theorem dX11_table_12 : decode cX11_table 12 = .ok (.iconst 4, 1) := by decide +kernel
theorem dX11_table_13 : decode cX11_table 13 = .ok (.if_icmp .ge 8, 3) := by decide +kernel
theorem dX11_table_16 : decode cX11_table 16 = .ok (.aload 4, 2) := by decide +kernel
theorem dX11_table_18 : decode cX11_table 18 = .ok (.ifnonnull 6, 3) := by decide +kernel
theorem dX11_table_21 : decode cX11_table 21 = .ok (.bipush (-2), 2) := by decide +kernel
theorem dX11_table_23 : decode cX11_table 23 = .ok (.ireturn, 1) := by decide +kernel
theorem dX11_table_24 : decode cX11_table 24 = .ok (.iload_n 2, 1) := by decide +kernel
theorem dX11_table_25 : decode cX11_table 25 = .ok (.iconst 4, 1) := by decide +kernel
theorem dX11_table_26 : decode cX11_table 26 = .ok (.if_icmp .lt 15, 3) := by decide +kernel
theorem dX11_table_29 : decode cX11_table 29 = .ok (.iload_n 2, 1) := by decide +kernel
theorem dX11_table_30 : decode cX11_table 30 = .ok (.bipush 60, 2) := by decide +kernel
theorem dX11_table_32 : decode cX11_table 32 = .ok (.if_icmp .gt 9, 3) := by decide +kernel
theorem dX11_table_35 : decode cX11_table 35 = .ok (.iload_n 2, 1) := by decide +kernel
theorem dX11_table_36 : decode cX11_table 36 = .ok (.iconst 3, 1) := by decide +kernel
theorem dX11_table_37 : decode cX11_table 37 = .ok (.iand, 1) := by decide +kernel
theorem dX11_table_38 : decode cX11_table 38 = .ok (.ifCond .eq 6, 3) := by decide +kernel
theorem dX11_table_41 : decode cX11_table 41 = .ok (.bipush (-3), 2) := by decide +kernel
theorem dX11_table_43 : decode cX11_table 43 = .ok (.ireturn, 1) := by decide +kernel
theorem dX11_table_44 : decode cX11_table 44 = .ok (.aload_n 0, 1) := by decide +kernel
theorem dX11_table_45 : decode cX11_table 45 = .ok (.getfield 17, 3) := by decide +kernel
theorem dX11_table_48 : decode cX11_table 48 = .ok (.iload_n 1, 1) := by decide +kernel
theorem dX11_table_49 : decode cX11_table 49 = .ok (.aaload, 1) := by decide +kernel
theorem dX11_table_50 : decode cX11_table 50 = .ok (.iload_n 2, 1) := by decide +kernel
theorem dX11_table_51 : decode cX11_table 51 = .ok (.aload 4, 2) := by decide +kernel
theorem dX11_table_53 : decode cX11_table 53 = .ok (.invokevirtual 79, 3) := by decide +kernel
theorem dX11_table_56 : decode cX11_table 56 = .ok (.aload_n 0, 1) := by decide +kernel
theorem dX11_table_57 : decode cX11_table 57 = .ok (.getfield 31, 3) := by decide +kernel
theorem dX11_table_60 : decode cX11_table 60 = .ok (.iload_n 1, 1) := by decide +kernel
theorem dX11_table_61 : decode cX11_table 61 = .ok (.iconst 0, 1) := by decide +kernel
theorem dX11_table_62 : decode cX11_table 62 = .ok (.iastore, 1) := by decide +kernel
theorem dX11_table_63 : decode cX11_table 63 = .ok (.iconst 1, 1) := by decide +kernel
theorem dX11_table_64 : decode cX11_table 64 = .ok (.ireturn, 1) := by decide +kernel
theorem dX11_seat_0 : decode cX11_seat 0 = .ok (.aload_n 0, 1) := by decide +kernel
theorem dX11_seat_1 : decode cX11_seat 1 = .ok (.iload_n 1, 1) := by decide +kernel
theorem dX11_seat_2 : decode cX11_seat 2 = .ok (.invokevirtual 83, 3) := by decide +kernel
theorem dX11_seat_5 : decode cX11_seat 5 = .ok (.astore 4, 2) := by decide +kernel
theorem dX11_seat_7 : decode cX11_seat 7 = .ok (.aload 4, 2) := by decide +kernel
theorem dX11_seat_9 : decode cX11_seat 9 = .ok (.ifnull 10, 3) := by decide +kernel
theorem dX11_seat_12 : decode cX11_seat 12 = .ok (.iload_n 2, 1) := by decide +kernel
theorem dX11_seat_13 : decode cX11_seat 13 = .ok (.invokestatic 87, 3) := by decide +kernel
theorem dX11_seat_16 : decode cX11_seat 16 = .ok (.ifCond .ne 6, 3) := by decide +kernel
theorem dX11_seat_19 : decode cX11_seat 19 = .ok (.bipush (-2), 2) := by decide +kernel
theorem dX11_seat_21 : decode cX11_seat 21 = .ok (.ireturn, 1) := by decide +kernel
theorem dX11_seat_22 : decode cX11_seat 22 = .ok (.aload 4, 2) := by decide +kernel
theorem dX11_seat_24 : decode cX11_seat 24 = .ok (.invokevirtual 90, 3) := by decide +kernel
theorem dX11_seat_27 : decode cX11_seat 27 = .ok (.ifCond .eq 6, 3) := by decide +kernel
theorem dX11_seat_30 : decode cX11_seat 30 = .ok (.bipush (-4), 2) := by decide +kernel
theorem dX11_seat_32 : decode cX11_seat 32 = .ok (.ireturn, 1) := by decide +kernel
theorem dX11_seat_33 : decode cX11_seat 33 = .ok (.aload 4, 2) := by decide +kernel
theorem dX11_seat_35 : decode cX11_seat 35 = .ok (.getfield 94, 3) := by decide +kernel
theorem dX11_seat_38 : decode cX11_seat 38 = .ok (.iload_n 2, 1) := by decide +kernel
theorem dX11_seat_39 : decode cX11_seat 39 = .ok (.baload, 1) := by decide +kernel
theorem dX11_seat_40 : decode cX11_seat 40 = .ok (.ifCond .eq 7, 3) := by decide +kernel
theorem dX11_seat_43 : decode cX11_seat 43 = .ok (.iconst 1, 1) := by decide +kernel
theorem dX11_seat_44 : decode cX11_seat 44 = .ok (.goto 4, 3) := by decide +kernel
theorem dX11_seat_47 : decode cX11_seat 47 = .ok (.iconst 0, 1) := by decide +kernel
theorem dX11_seat_48 : decode cX11_seat 48 = .ok (.istore 5, 2) := by decide +kernel
theorem dX11_seat_50 : decode cX11_seat 50 = .ok (.iload_n 3, 1) := by decide +kernel
theorem dX11_seat_51 : decode cX11_seat 51 = .ok (.ifCond .ne 9, 3) := by decide +kernel
theorem dX11_seat_54 : decode cX11_seat 54 = .ok (.aload 4, 2) := by decide +kernel
theorem dX11_seat_56 : decode cX11_seat 56 = .ok (.iload_n 2, 1) := by decide +kernel
theorem dX11_seat_57 : decode cX11_seat 57 = .ok (.invokevirtual 98, 3) := by decide +kernel
theorem dX11_seat_60 : decode cX11_seat 60 = .ok (.aload 4, 2) := by decide +kernel
theorem dX11_seat_62 : decode cX11_seat 62 = .ok (.getfield 94, 3) := by decide +kernel
theorem dX11_seat_65 : decode cX11_seat 65 = .ok (.iload_n 2, 1) := by decide +kernel
theorem dX11_seat_66 : decode cX11_seat 66 = .ok (.iload_n 3, 1) := by decide +kernel
theorem dX11_seat_67 : decode cX11_seat 67 = .ok (.bastore, 1) := by decide +kernel
theorem dX11_seat_68 : decode cX11_seat 68 = .ok (.iload 5, 2) := by decide +kernel
theorem dX11_seat_70 : decode cX11_seat 70 = .ok (.ireturn, 1) := by decide +kernel
theorem dX11_kind_0 : decode cX11_kind 0 = .ok (.aload_n 0, 1) := by decide +kernel
theorem dX11_kind_1 : decode cX11_kind 1 = .ok (.iload_n 1, 1) := by decide +kernel
theorem dX11_kind_2 : decode cX11_kind 2 = .ok (.invokevirtual 83, 3) := by decide +kernel
theorem dX11_kind_5 : decode cX11_kind 5 = .ok (.astore 4, 2) := by decide +kernel
theorem dX11_kind_7 : decode cX11_kind 7 = .ok (.aload 4, 2) := by decide +kernel
theorem dX11_kind_9 : decode cX11_kind 9 = .ok (.ifnull 12, 3) := by decide +kernel
theorem dX11_kind_12 : decode cX11_kind 12 = .ok (.aload 4, 2) := by decide +kernel
theorem dX11_kind_14 : decode cX11_kind 14 = .ok (.iload_n 2, 1) := by decide +kernel
theorem dX11_kind_15 : decode cX11_kind 15 = .ok (.invokevirtual 101, 3) := by decide +kernel
theorem dX11_kind_18 : decode cX11_kind 18 = .ok (.ifCond .ne 6, 3) := by decide +kernel
theorem dX11_kind_21 : decode cX11_kind 21 = .ok (.bipush (-2), 2) := by decide +kernel
theorem dX11_kind_23 : decode cX11_kind 23 = .ok (.ireturn, 1) := by decide +kernel
theorem dX11_kind_24 : decode cX11_kind 24 = .ok (.iload_n 3, 1) := by decide +kernel
theorem dX11_kind_25 : decode cX11_kind 25 = .ok (.ifCond .lt 8, 3) := by decide +kernel
theorem dX11_kind_28 : decode cX11_kind 28 = .ok (.iload_n 3, 1) := by decide +kernel
theorem dX11_kind_29 : decode cX11_kind 29 = .ok (.iconst 3, 1) := by decide +kernel
theorem dX11_kind_30 : decode cX11_kind 30 = .ok (.if_icmp .le 6, 3) := by decide +kernel
theorem dX11_kind_33 : decode cX11_kind 33 = .ok (.bipush (-3), 2) := by decide +kernel
theorem dX11_kind_35 : decode cX11_kind 35 = .ok (.ireturn, 1) := by decide +kernel
theorem dX11_kind_36 : decode cX11_kind 36 = .ok (.aload 4, 2) := by decide +kernel
theorem dX11_kind_38 : decode cX11_kind 38 = .ok (.getfield 104, 3) := by decide +kernel
theorem dX11_kind_41 : decode cX11_kind 41 = .ok (.iload_n 2, 1) := by decide +kernel
theorem dX11_kind_42 : decode cX11_kind 42 = .ok (.iaload, 1) := by decide +kernel
theorem dX11_kind_43 : decode cX11_kind 43 = .ok (.ifCond .eq 6, 3) := by decide +kernel
theorem dX11_kind_46 : decode cX11_kind 46 = .ok (.bipush (-4), 2) := by decide +kernel
theorem dX11_kind_48 : decode cX11_kind 48 = .ok (.ireturn, 1) := by decide +kernel
theorem dX11_kind_49 : decode cX11_kind 49 = .ok (.iconst 0, 1) := by decide +kernel
theorem dX11_kind_50 : decode cX11_kind 50 = .ok (.aload 4, 2) := by decide +kernel
theorem dX11_kind_52 : decode cX11_kind 52 = .ok (.getfield 107, 3) := by decide +kernel
theorem dX11_kind_55 : decode cX11_kind 55 = .ok (.iload_n 2, 1) := by decide +kernel
theorem dX11_kind_56 : decode cX11_kind 56 = .ok (.iaload, 1) := by decide +kernel
theorem dX11_kind_57 : decode cX11_kind 57 = .ok (.iconst 3, 1) := by decide +kernel
theorem dX11_kind_58 : decode cX11_kind 58 = .ok (.isub, 1) := by decide +kernel
theorem dX11_kind_59 : decode cX11_kind 59 = .ok (.invokestatic 110, 3) := by decide +kernel
theorem dX11_kind_62 : decode cX11_kind 62 = .ok (.istore 5, 2) := by decide +kernel
theorem dX11_kind_64 : decode cX11_kind 64 = .ok (.aload 4, 2) := by decide +kernel
theorem dX11_kind_66 : decode cX11_kind 66 = .ok (.getfield 107, 3) := by decide +kernel
theorem dX11_kind_69 : decode cX11_kind 69 = .ok (.iload_n 2, 1) := by decide +kernel
theorem dX11_kind_70 : decode cX11_kind 70 = .ok (.iload_n 3, 1) := by decide +kernel
theorem dX11_kind_71 : decode cX11_kind 71 = .ok (.ifCond .ne 9, 3) := by decide +kernel
theorem dX11_kind_74 : decode cX11_kind 74 = .ok (.iload_n 2, 1) := by decide +kernel
theorem dX11_kind_75 : decode cX11_kind 75 = .ok (.iconst 3, 1) := by decide +kernel
theorem dX11_kind_76 : decode cX11_kind 76 = .ok (.iand, 1) := by decide +kernel
theorem dX11_kind_77 : decode cX11_kind 77 = .ok (.goto 6, 3) := by decide +kernel
theorem dX11_kind_80 : decode cX11_kind 80 = .ok (.iload_n 3, 1) := by decide +kernel
theorem dX11_kind_81 : decode cX11_kind 81 = .ok (.iconst 3, 1) := by decide +kernel
theorem dX11_kind_82 : decode cX11_kind 82 = .ok (.iadd, 1) := by decide +kernel
theorem dX11_kind_83 : decode cX11_kind 83 = .ok (.iastore, 1) := by decide +kernel
theorem dX11_kind_84 : decode cX11_kind 84 = .ok (.iload 5, 2) := by decide +kernel
theorem dX11_kind_86 : decode cX11_kind 86 = .ok (.ireturn, 1) := by decide +kernel
theorem dX11_card_0 : decode cX11_card 0 = .ok (.aload_n 0, 1) := by decide +kernel
theorem dX11_card_1 : decode cX11_card 1 = .ok (.iload_n 1, 1) := by decide +kernel
theorem dX11_card_2 : decode cX11_card 2 = .ok (.invokevirtual 83, 3) := by decide +kernel
theorem dX11_card_5 : decode cX11_card 5 = .ok (.astore_n 3, 1) := by decide +kernel
theorem dX11_card_6 : decode cX11_card 6 = .ok (.aload_n 3, 1) := by decide +kernel
theorem dX11_card_7 : decode cX11_card 7 = .ok (.ifnull 11, 3) := by decide +kernel
theorem dX11_card_10 : decode cX11_card 10 = .ok (.aload_n 3, 1) := by decide +kernel
theorem dX11_card_11 : decode cX11_card 11 = .ok (.iload_n 2, 1) := by decide +kernel
theorem dX11_card_12 : decode cX11_card 12 = .ok (.invokevirtual 101, 3) := by decide +kernel
theorem dX11_card_15 : decode cX11_card 15 = .ok (.ifCond .ne 8, 3) := by decide +kernel
theorem dX11_card_18 : decode cX11_card 18 = .ok (.bipush (-2), 2) := by decide +kernel
theorem dX11_card_20 : decode cX11_card 20 = .ok (.goto 9, 3) := by decide +kernel
theorem dX11_card_23 : decode cX11_card 23 = .ok (.aload_n 3, 1) := by decide +kernel
theorem dX11_card_24 : decode cX11_card 24 = .ok (.getfield 104, 3) := by decide +kernel
theorem dX11_card_27 : decode cX11_card 27 = .ok (.iload_n 2, 1) := by decide +kernel
theorem dX11_card_28 : decode cX11_card 28 = .ok (.iaload, 1) := by decide +kernel
theorem dX11_card_29 : decode cX11_card 29 = .ok (.ireturn, 1) := by decide +kernel
theorem dX11_match_0 : decode cX11_match 0 = .ok (.aload_n 0, 1) := by decide +kernel
theorem dX11_match_1 : decode cX11_match 1 = .ok (.iload_n 1, 1) := by decide +kernel
theorem dX11_match_2 : decode cX11_match 2 = .ok (.invokevirtual 83, 3) := by decide +kernel
theorem dX11_match_5 : decode cX11_match 5 = .ok (.astore_n 3, 1) := by decide +kernel
theorem dX11_match_6 : decode cX11_match 6 = .ok (.aload_n 3, 1) := by decide +kernel
theorem dX11_match_7 : decode cX11_match 7 = .ok (.ifnonnull 6, 3) := by decide +kernel
theorem dX11_match_10 : decode cX11_match 10 = .ok (.bipush (-2), 2) := by decide +kernel
theorem dX11_match_12 : decode cX11_match 12 = .ok (.ireturn, 1) := by decide +kernel
theorem dX11_match_13 : decode cX11_match 13 = .ok (.iload_n 2, 1) := by decide +kernel
theorem dX11_match_14 : decode cX11_match 14 = .ok (.iconst 1, 1) := by decide +kernel
theorem dX11_match_15 : decode cX11_match 15 = .ok (.if_icmp .lt 10, 3) := by decide +kernel
theorem dX11_match_18 : decode cX11_match 18 = .ok (.iload_n 2, 1) := by decide +kernel
theorem dX11_match_19 : decode cX11_match 19 = .ok (.sipush 200, 3) := by decide +kernel
theorem dX11_match_22 : decode cX11_match 22 = .ok (.if_icmp .le 6, 3) := by decide +kernel
theorem dX11_match_25 : decode cX11_match 25 = .ok (.bipush (-3), 2) := by decide +kernel
theorem dX11_match_27 : decode cX11_match 27 = .ok (.ireturn, 1) := by decide +kernel
theorem dX11_match_28 : decode cX11_match 28 = .ok (.aload_n 3, 1) := by decide +kernel
theorem dX11_match_29 : decode cX11_match 29 = .ok (.invokevirtual 90, 3) := by decide +kernel
theorem dX11_match_32 : decode cX11_match 32 = .ok (.ifCond .eq 6, 3) := by decide +kernel
theorem dX11_match_35 : decode cX11_match 35 = .ok (.bipush (-4), 2) := by decide +kernel
theorem dX11_match_37 : decode cX11_match 37 = .ok (.ireturn, 1) := by decide +kernel
theorem dX11_match_38 : decode cX11_match 38 = .ok (.aload_n 3, 1) := by decide +kernel
theorem dX11_match_39 : decode cX11_match 39 = .ok (.getfield 116, 3) := by decide +kernel
theorem dX11_match_42 : decode cX11_match 42 = .ok (.istore 4, 2) := by decide +kernel
theorem dX11_match_44 : decode cX11_match 44 = .ok (.aload_n 3, 1) := by decide +kernel
theorem dX11_match_45 : decode cX11_match 45 = .ok (.iload_n 2, 1) := by decide +kernel
theorem dX11_match_46 : decode cX11_match 46 = .ok (.putfield 119, 3) := by decide +kernel
theorem dX11_match_49 : decode cX11_match 49 = .ok (.aload_n 3, 1) := by decide +kernel
theorem dX11_match_50 : decode cX11_match 50 = .ok (.iconst 0, 1) := by decide +kernel
theorem dX11_match_51 : decode cX11_match 51 = .ok (.putfield 116, 3) := by decide +kernel
theorem dX11_match_54 : decode cX11_match 54 = .ok (.aload_n 3, 1) := by decide +kernel
theorem dX11_match_55 : decode cX11_match 55 = .ok (.getfield 122, 3) := by decide +kernel
theorem dX11_match_58 : decode cX11_match 58 = .ok (.iconst 0, 1) := by decide +kernel
theorem dX11_match_59 : decode cX11_match 59 = .ok (.invokestatic 125, 3) := by decide +kernel
theorem dX11_match_62 : decode cX11_match 62 = .ok (.iload 4, 2) := by decide +kernel
theorem dX11_match_64 : decode cX11_match 64 = .ok (.ireturn, 1) := by decide +kernel
theorem dX11_deal_0 : decode cX11_deal 0 = .ok (.aload_n 0, 1) := by decide +kernel
theorem dX11_deal_1 : decode cX11_deal 1 = .ok (.iload_n 1, 1) := by decide +kernel
theorem dX11_deal_2 : decode cX11_deal 2 = .ok (.invokevirtual 83, 3) := by decide +kernel
theorem dX11_deal_5 : decode cX11_deal 5 = .ok (.astore 4, 2) := by decide +kernel
theorem dX11_deal_7 : decode cX11_deal 7 = .ok (.aload 4, 2) := by decide +kernel
theorem dX11_deal_9 : decode cX11_deal 9 = .ok (.ifnonnull 6, 3) := by decide +kernel
theorem dX11_deal_12 : decode cX11_deal 12 = .ok (.bipush (-2), 2) := by decide +kernel
theorem dX11_deal_14 : decode cX11_deal 14 = .ok (.ireturn, 1) := by decide +kernel
theorem dX11_deal_15 : decode cX11_deal 15 = .ok (.iload_n 3, 1) := by decide +kernel
theorem dX11_deal_16 : decode cX11_deal 16 = .ok (.iconst (-1), 1) := by decide +kernel
theorem dX11_deal_17 : decode cX11_deal 17 = .ok (.if_icmp .lt 16, 3) := by decide +kernel
theorem dX11_deal_20 : decode cX11_deal 20 = .ok (.iload_n 3, 1) := by decide +kernel
theorem dX11_deal_21 : decode cX11_deal 21 = .ok (.aload 4, 2) := by decide +kernel
theorem dX11_deal_23 : decode cX11_deal 23 = .ok (.aload_n 0, 1) := by decide +kernel
theorem dX11_deal_24 : decode cX11_deal 24 = .ok (.getfield 47, 3) := by decide +kernel
theorem dX11_deal_27 : decode cX11_deal 27 = .ok (.invokevirtual 131, 3) := by decide +kernel
theorem dX11_deal_30 : decode cX11_deal 30 = .ok (.if_icmp .le 6, 3) := by decide +kernel
theorem dX11_deal_33 : decode cX11_deal 33 = .ok (.bipush (-3), 2) := by decide +kernel
theorem dX11_deal_35 : decode cX11_deal 35 = .ok (.ireturn, 1) := by decide +kernel
theorem dX11_deal_36 : decode cX11_deal 36 = .ok (.aload 4, 2) := by decide +kernel
theorem dX11_deal_38 : decode cX11_deal 38 = .ok (.invokevirtual 90, 3) := by decide +kernel
theorem dX11_deal_41 : decode cX11_deal 41 = .ok (.ifCond .eq 15, 3) := by decide +kernel
theorem dX11_deal_44 : decode cX11_deal 44 = .ok (.aload 4, 2) := by decide +kernel
theorem dX11_deal_46 : decode cX11_deal 46 = .ok (.getfield 135, 3) := by decide +kernel
theorem dX11_deal_49 : decode cX11_deal 49 = .ok (.getfield 139, 3) := by decide +kernel
theorem dX11_deal_52 : decode cX11_deal 52 = .ok (.iconst (-1), 1) := by decide +kernel
theorem dX11_deal_53 : decode cX11_deal 53 = .ok (.if_icmp .ne 16, 3) := by decide +kernel
theorem dX11_deal_56 : decode cX11_deal 56 = .ok (.aload 4, 2) := by decide +kernel
theorem dX11_deal_58 : decode cX11_deal 58 = .ok (.getfield 116, 3) := by decide +kernel
theorem dX11_deal_61 : decode cX11_deal 61 = .ok (.aload 4, 2) := by decide +kernel
theorem dX11_deal_63 : decode cX11_deal 63 = .ok (.getfield 119, 3) := by decide +kernel
theorem dX11_deal_66 : decode cX11_deal 66 = .ok (.if_icmp .lt 6, 3) := by decide +kernel
theorem dX11_deal_69 : decode cX11_deal 69 = .ok (.bipush (-4), 2) := by decide +kernel
theorem dX11_deal_71 : decode cX11_deal 71 = .ok (.ireturn, 1) := by decide +kernel
theorem dX11_deal_72 : decode cX11_deal 72 = .ok (.aload_n 0, 1) := by decide +kernel
theorem dX11_deal_73 : decode cX11_deal 73 = .ok (.aload 4, 2) := by decide +kernel
theorem dX11_deal_75 : decode cX11_deal 75 = .ok (.invokevirtual 144, 3) := by decide +kernel
theorem dX11_deal_78 : decode cX11_deal 78 = .ok (.aload 4, 2) := by decide +kernel
theorem dX11_deal_80 : decode cX11_deal 80 = .ok (.aload_n 0, 1) := by decide +kernel
theorem dX11_deal_81 : decode cX11_deal 81 = .ok (.getfield 43, 3) := by decide +kernel
theorem dX11_deal_84 : decode cX11_deal 84 = .ok (.invokevirtual 131, 3) := by decide +kernel
theorem dX11_deal_87 : decode cX11_deal 87 = .ok (.istore 5, 2) := by decide +kernel
theorem dX11_deal_89 : decode cX11_deal 89 = .ok (.aload_n 0, 1) := by decide +kernel
theorem dX11_deal_90 : decode cX11_deal 90 = .ok (.getfield 43, 3) := by decide +kernel
theorem dX11_deal_93 : decode cX11_deal 93 = .ok (.dup, 1) := by decide +kernel
theorem dX11_deal_94 : decode cX11_deal 94 = .ok (.getfield 148, 3) := by decide +kernel
theorem dX11_deal_97 : decode cX11_deal 97 = .ok (.iconst 1, 1) := by decide +kernel
theorem dX11_deal_98 : decode cX11_deal 98 = .ok (.iadd, 1) := by decide +kernel
theorem dX11_deal_99 : decode cX11_deal 99 = .ok (.putfield 148, 3) := by decide +kernel
theorem dX11_deal_102 : decode cX11_deal 102 = .ok (.aload 4, 2) := by decide +kernel
theorem dX11_deal_104 : decode cX11_deal 104 = .ok (.dup, 1) := by decide +kernel
theorem dX11_deal_105 : decode cX11_deal 105 = .ok (.getfield 116, 3) := by decide +kernel
theorem dX11_deal_108 : decode cX11_deal 108 = .ok (.iconst 1, 1) := by decide +kernel
theorem dX11_deal_109 : decode cX11_deal 109 = .ok (.iadd, 1) := by decide +kernel
theorem dX11_deal_110 : decode cX11_deal 110 = .ok (.putfield 116, 3) := by decide +kernel
theorem dX11_deal_113 : decode cX11_deal 113 = .ok (.aload 4, 2) := by decide +kernel
theorem dX11_deal_115 : decode cX11_deal 115 = .ok (.iload_n 2, 1) := by decide +kernel
theorem dX11_deal_116 : decode cX11_deal 116 = .ok (.iload_n 3, 1) := by decide +kernel
theorem dX11_deal_117 : decode cX11_deal 117 = .ok (.ifCond .ge 8, 3) := by decide +kernel
theorem dX11_deal_120 : decode cX11_deal 120 = .ok (.iload 5, 2) := by decide +kernel
theorem dX11_deal_122 : decode cX11_deal 122 = .ok (.goto 4, 3) := by decide +kernel
theorem dX11_deal_125 : decode cX11_deal 125 = .ok (.iload_n 3, 1) := by decide +kernel
theorem dX11_deal_126 : decode cX11_deal 126 = .ok (.invokevirtual 151, 3) := by decide +kernel
theorem dX11_deal_129 : decode cX11_deal 129 = .ok (.aload 4, 2) := by decide +kernel
theorem dX11_deal_131 : decode cX11_deal 131 = .ok (.getfield 135, 3) := by decide +kernel
theorem dX11_deal_134 : decode cX11_deal 134 = .ok (.aload_n 0, 1) := by decide +kernel
theorem dX11_deal_135 : decode cX11_deal 135 = .ok (.getfield 43, 3) := by decide +kernel
theorem dX11_deal_138 : decode cX11_deal 138 = .ok (.getfield 148, 3) := by decide +kernel
theorem dX11_deal_141 : decode cX11_deal 141 = .ok (.putfield 155, 3) := by decide +kernel
theorem dX11_deal_144 : decode cX11_deal 144 = .ok (.aload_n 0, 1) := by decide +kernel
theorem dX11_deal_145 : decode cX11_deal 145 = .ok (.getfield 43, 3) := by decide +kernel
theorem dX11_deal_148 : decode cX11_deal 148 = .ok (.getfield 148, 3) := by decide +kernel
theorem dX11_deal_151 : decode cX11_deal 151 = .ok (.ireturn, 1) := by decide +kernel
theorem dX11_give_0 : decode cX11_give 0 = .ok (.aload_n 0, 1) := by decide +kernel
theorem dX11_give_1 : decode cX11_give 1 = .ok (.iload_n 1, 1) := by decide +kernel
theorem dX11_give_2 : decode cX11_give 2 = .ok (.invokevirtual 83, 3) := by decide +kernel
theorem dX11_give_5 : decode cX11_give 5 = .ok (.astore 4, 2) := by decide +kernel
theorem dX11_give_7 : decode cX11_give 7 = .ok (.aload 4, 2) := by decide +kernel
theorem dX11_give_9 : decode cX11_give 9 = .ok (.ifnull 19, 3) := by decide +kernel
theorem dX11_give_12 : decode cX11_give 12 = .ok (.iload_n 2, 1) := by decide +kernel
theorem dX11_give_13 : decode cX11_give 13 = .ok (.invokestatic 87, 3) := by decide +kernel
theorem dX11_give_16 : decode cX11_give 16 = .ok (.ifCond .eq 12, 3) := by decide +kernel
theorem dX11_give_19 : decode cX11_give 19 = .ok (.aload 4, 2) := by decide +kernel
theorem dX11_give_21 : decode cX11_give 21 = .ok (.iload_n 3, 1) := by decide +kernel
theorem dX11_give_22 : decode cX11_give 22 = .ok (.invokevirtual 101, 3) := by decide +kernel
theorem dX11_give_25 : decode cX11_give 25 = .ok (.ifCond .ne 6, 3) := by decide +kernel
theorem dX11_give_28 : decode cX11_give 28 = .ok (.bipush (-2), 2) := by decide +kernel
theorem dX11_give_30 : decode cX11_give 30 = .ok (.ireturn, 1) := by decide +kernel
theorem dX11_give_31 : decode cX11_give 31 = .ok (.aload 4, 2) := by decide +kernel
theorem dX11_give_33 : decode cX11_give 33 = .ok (.aload_n 0, 1) := by decide +kernel
theorem dX11_give_34 : decode cX11_give 34 = .ok (.getfield 47, 3) := by decide +kernel
theorem dX11_give_37 : decode cX11_give 37 = .ok (.iload_n 2, 1) := by decide +kernel
theorem dX11_give_38 : decode cX11_give 38 = .ok (.iload_n 3, 1) := by decide +kernel
theorem dX11_give_39 : decode cX11_give 39 = .ok (.invokevirtual 156, 3) := by decide +kernel
theorem dX11_give_42 : decode cX11_give 42 = .ok (.istore 5, 2) := by decide +kernel
theorem dX11_give_44 : decode cX11_give 44 = .ok (.iload 5, 2) := by decide +kernel
theorem dX11_give_46 : decode cX11_give 46 = .ok (.ifCond .eq 6, 3) := by decide +kernel
theorem dX11_give_49 : decode cX11_give 49 = .ok (.iload 5, 2) := by decide +kernel
theorem dX11_give_51 : decode cX11_give 51 = .ok (.ireturn, 1) := by decide +kernel
theorem dX11_give_52 : decode cX11_give 52 = .ok (.aload_n 0, 1) := by decide +kernel
theorem dX11_give_53 : decode cX11_give 53 = .ok (.aload 4, 2) := by decide +kernel
theorem dX11_give_55 : decode cX11_give 55 = .ok (.invokevirtual 144, 3) := by decide +kernel
theorem dX11_give_58 : decode cX11_give 58 = .ok (.aload 4, 2) := by decide +kernel
theorem dX11_give_60 : decode cX11_give 60 = .ok (.getfield 135, 3) := by decide +kernel
theorem dX11_give_63 : decode cX11_give 63 = .ok (.getfield 160, 3) := by decide +kernel
theorem dX11_give_66 : decode cX11_give 66 = .ok (.iconst 0, 1) := by decide +kernel
theorem dX11_give_67 : decode cX11_give 67 = .ok (.iload_n 2, 1) := by decide +kernel
theorem dX11_give_68 : decode cX11_give 68 = .ok (.iload_n 3, 1) := by decide +kernel
theorem dX11_give_69 : decode cX11_give 69 = .ok (.iconst 0, 1) := by decide +kernel
theorem dX11_give_70 : decode cX11_give 70 = .ok (.invokestatic 164, 3) := by decide +kernel
theorem dX11_give_73 : decode cX11_give 73 = .ok (.invokevirtual 168, 3) := by decide +kernel
theorem dX11_give_76 : decode cX11_give 76 = .ok (.aload 4, 2) := by decide +kernel
theorem dX11_give_78 : decode cX11_give 78 = .ok (.iload_n 2, 1) := by decide +kernel
theorem dX11_give_79 : decode cX11_give 79 = .ok (.iload_n 3, 1) := by decide +kernel
theorem dX11_give_80 : decode cX11_give 80 = .ok (.invokevirtual 173, 3) := by decide +kernel
theorem dX11_give_83 : decode cX11_give 83 = .ok (.ireturn, 1) := by decide +kernel
theorem dX11_bid_0 : decode cX11_bid 0 = .ok (.aload_n 0, 1) := by decide +kernel
theorem dX11_bid_1 : decode cX11_bid 1 = .ok (.iload_n 1, 1) := by decide +kernel
theorem dX11_bid_2 : decode cX11_bid 2 = .ok (.invokevirtual 83, 3) := by decide +kernel
theorem dX11_bid_5 : decode cX11_bid 5 = .ok (.astore 5, 2) := by decide +kernel
theorem dX11_bid_7 : decode cX11_bid 7 = .ok (.aload 5, 2) := by decide +kernel
theorem dX11_bid_9 : decode cX11_bid 9 = .ok (.ifnull 10, 3) := by decide +kernel
theorem dX11_bid_12 : decode cX11_bid 12 = .ok (.iload_n 2, 1) := by decide +kernel
theorem dX11_bid_13 : decode cX11_bid 13 = .ok (.invokestatic 87, 3) := by decide +kernel
theorem dX11_bid_16 : decode cX11_bid 16 = .ok (.ifCond .ne 6, 3) := by decide +kernel
theorem dX11_bid_19 : decode cX11_bid 19 = .ok (.bipush (-2), 2) := by decide +kernel
theorem dX11_bid_21 : decode cX11_bid 21 = .ok (.ireturn, 1) := by decide +kernel
theorem dX11_bid_22 : decode cX11_bid 22 = .ok (.aload 5, 2) := by decide +kernel
theorem dX11_bid_24 : decode cX11_bid 24 = .ok (.aload_n 0, 1) := by decide +kernel
theorem dX11_bid_25 : decode cX11_bid 25 = .ok (.getfield 47, 3) := by decide +kernel
theorem dX11_bid_28 : decode cX11_bid 28 = .ok (.iload_n 2, 1) := by decide +kernel
theorem dX11_bid_29 : decode cX11_bid 29 = .ok (.iload_n 3, 1) := by decide +kernel
theorem dX11_bid_30 : decode cX11_bid 30 = .ok (.iload 4, 2) := by decide +kernel
theorem dX11_bid_32 : decode cX11_bid 32 = .ok (.invokevirtual 176, 3) := by decide +kernel
theorem dX11_bid_35 : decode cX11_bid 35 = .ok (.istore 6, 2) := by decide +kernel
theorem dX11_bid_37 : decode cX11_bid 37 = .ok (.iload 6, 2) := by decide +kernel
theorem dX11_bid_39 : decode cX11_bid 39 = .ok (.ifCond .eq 6, 3) := by decide +kernel
theorem dX11_bid_42 : decode cX11_bid 42 = .ok (.iload 6, 2) := by decide +kernel
theorem dX11_bid_44 : decode cX11_bid 44 = .ok (.ireturn, 1) := by decide +kernel
theorem dX11_bid_45 : decode cX11_bid 45 = .ok (.aload_n 0, 1) := by decide +kernel
theorem dX11_bid_46 : decode cX11_bid 46 = .ok (.aload 5, 2) := by decide +kernel
theorem dX11_bid_48 : decode cX11_bid 48 = .ok (.invokevirtual 144, 3) := by decide +kernel
theorem dX11_bid_51 : decode cX11_bid 51 = .ok (.aload 5, 2) := by decide +kernel
theorem dX11_bid_53 : decode cX11_bid 53 = .ok (.getfield 135, 3) := by decide +kernel
theorem dX11_bid_56 : decode cX11_bid 56 = .ok (.getfield 160, 3) := by decide +kernel
theorem dX11_bid_59 : decode cX11_bid 59 = .ok (.iconst 1, 1) := by decide +kernel
theorem dX11_bid_60 : decode cX11_bid 60 = .ok (.iload_n 2, 1) := by decide +kernel
theorem dX11_bid_61 : decode cX11_bid 61 = .ok (.iload_n 3, 1) := by decide +kernel
theorem dX11_bid_62 : decode cX11_bid 62 = .ok (.iload 4, 2) := by decide +kernel
theorem dX11_bid_64 : decode cX11_bid 64 = .ok (.invokestatic 164, 3) := by decide +kernel
theorem dX11_bid_67 : decode cX11_bid 67 = .ok (.invokevirtual 168, 3) := by decide +kernel
theorem dX11_bid_70 : decode cX11_bid 70 = .ok (.aload 5, 2) := by decide +kernel
theorem dX11_bid_72 : decode cX11_bid 72 = .ok (.getfield 135, 3) := by decide +kernel
theorem dX11_bid_75 : decode cX11_bid 75 = .ok (.iload_n 3, 1) := by decide +kernel
theorem dX11_bid_76 : decode cX11_bid 76 = .ok (.iload 4, 2) := by decide +kernel
theorem dX11_bid_78 : decode cX11_bid 78 = .ok (.iload_n 2, 1) := by decide +kernel
theorem dX11_bid_79 : decode cX11_bid 79 = .ok (.invokevirtual 180, 3) := by decide +kernel
theorem dX11_bid_82 : decode cX11_bid 82 = .ok (.iconst 1, 1) := by decide +kernel
theorem dX11_bid_83 : decode cX11_bid 83 = .ok (.ireturn, 1) := by decide +kernel
theorem dX11_doubled_0 : decode cX11_doubled 0 = .ok (.aload_n 0, 1) := by decide +kernel
theorem dX11_doubled_1 : decode cX11_doubled 1 = .ok (.iload_n 1, 1) := by decide +kernel
theorem dX11_doubled_2 : decode cX11_doubled 2 = .ok (.invokevirtual 83, 3) := by decide +kernel
theorem dX11_doubled_5 : decode cX11_doubled 5 = .ok (.astore_n 3, 1) := by decide +kernel
theorem dX11_doubled_6 : decode cX11_doubled 6 = .ok (.aload_n 3, 1) := by decide +kernel
theorem dX11_doubled_7 : decode cX11_doubled 7 = .ok (.ifnull 10, 3) := by decide +kernel
theorem dX11_doubled_10 : decode cX11_doubled 10 = .ok (.iload_n 2, 1) := by decide +kernel
theorem dX11_doubled_11 : decode cX11_doubled 11 = .ok (.invokestatic 87, 3) := by decide +kernel
theorem dX11_doubled_14 : decode cX11_doubled 14 = .ok (.ifCond .ne 6, 3) := by decide +kernel
theorem dX11_doubled_17 : decode cX11_doubled 17 = .ok (.bipush (-2), 2) := by decide +kernel
theorem dX11_doubled_19 : decode cX11_doubled 19 = .ok (.ireturn, 1) := by decide +kernel
theorem dX11_doubled_20 : decode cX11_doubled 20 = .ok (.aload_n 3, 1) := by decide +kernel
theorem dX11_doubled_21 : decode cX11_doubled 21 = .ok (.iload_n 2, 1) := by decide +kernel
theorem dX11_doubled_22 : decode cX11_doubled 22 = .ok (.invokevirtual 184, 3) := by decide +kernel
theorem dX11_doubled_25 : decode cX11_doubled 25 = .ok (.ifCond .ne 6, 3) := by decide +kernel
theorem dX11_doubled_28 : decode cX11_doubled 28 = .ok (.bipush (-4), 2) := by decide +kernel
theorem dX11_doubled_30 : decode cX11_doubled 30 = .ok (.ireturn, 1) := by decide +kernel
theorem dX11_doubled_31 : decode cX11_doubled 31 = .ok (.aload_n 0, 1) := by decide +kernel
theorem dX11_doubled_32 : decode cX11_doubled 32 = .ok (.aload_n 3, 1) := by decide +kernel
theorem dX11_doubled_33 : decode cX11_doubled 33 = .ok (.invokevirtual 144, 3) := by decide +kernel
theorem dX11_doubled_36 : decode cX11_doubled 36 = .ok (.aload_n 3, 1) := by decide +kernel
theorem dX11_doubled_37 : decode cX11_doubled 37 = .ok (.getfield 135, 3) := by decide +kernel
theorem dX11_doubled_40 : decode cX11_doubled 40 = .ok (.getfield 160, 3) := by decide +kernel
theorem dX11_doubled_43 : decode cX11_doubled 43 = .ok (.iconst 2, 1) := by decide +kernel
theorem dX11_doubled_44 : decode cX11_doubled 44 = .ok (.iload_n 2, 1) := by decide +kernel
theorem dX11_doubled_45 : decode cX11_doubled 45 = .ok (.iconst 0, 1) := by decide +kernel
theorem dX11_doubled_46 : decode cX11_doubled 46 = .ok (.iconst 0, 1) := by decide +kernel
theorem dX11_doubled_47 : decode cX11_doubled 47 = .ok (.invokestatic 164, 3) := by decide +kernel
theorem dX11_doubled_50 : decode cX11_doubled 50 = .ok (.invokevirtual 168, 3) := by decide +kernel
theorem dX11_doubled_53 : decode cX11_doubled 53 = .ok (.aload_n 3, 1) := by decide +kernel
theorem dX11_doubled_54 : decode cX11_doubled 54 = .ok (.getfield 135, 3) := by decide +kernel
theorem dX11_doubled_57 : decode cX11_doubled 57 = .ok (.dup, 1) := by decide +kernel
theorem dX11_doubled_58 : decode cX11_doubled 58 = .ok (.getfield 187, 3) := by decide +kernel
theorem dX11_doubled_61 : decode cX11_doubled 61 = .ok (.iconst 1, 1) := by decide +kernel
theorem dX11_doubled_62 : decode cX11_doubled 62 = .ok (.iadd, 1) := by decide +kernel
theorem dX11_doubled_63 : decode cX11_doubled 63 = .ok (.putfield 187, 3) := by decide +kernel
theorem dX11_doubled_66 : decode cX11_doubled 66 = .ok (.aload_n 3, 1) := by decide +kernel
theorem dX11_doubled_67 : decode cX11_doubled 67 = .ok (.getfield 135, 3) := by decide +kernel
theorem dX11_doubled_70 : decode cX11_doubled 70 = .ok (.getfield 187, 3) := by decide +kernel
theorem dX11_doubled_73 : decode cX11_doubled 73 = .ok (.ireturn, 1) := by decide +kernel
theorem dX11_lay_0 : decode cX11_lay 0 = .ok (.aload_n 0, 1) := by decide +kernel
theorem dX11_lay_1 : decode cX11_lay 1 = .ok (.iload_n 1, 1) := by decide +kernel
theorem dX11_lay_2 : decode cX11_lay 2 = .ok (.invokevirtual 83, 3) := by decide +kernel
theorem dX11_lay_5 : decode cX11_lay 5 = .ok (.astore 4, 2) := by decide +kernel
theorem dX11_lay_7 : decode cX11_lay 7 = .ok (.aload 4, 2) := by decide +kernel
theorem dX11_lay_9 : decode cX11_lay 9 = .ok (.ifnull 10, 3) := by decide +kernel
theorem dX11_lay_12 : decode cX11_lay 12 = .ok (.iload_n 2, 1) := by decide +kernel
theorem dX11_lay_13 : decode cX11_lay 13 = .ok (.invokestatic 87, 3) := by decide +kernel
theorem dX11_lay_16 : decode cX11_lay 16 = .ok (.ifCond .ne 6, 3) := by decide +kernel
theorem dX11_lay_19 : decode cX11_lay 19 = .ok (.bipush (-2), 2) := by decide +kernel
theorem dX11_lay_21 : decode cX11_lay 21 = .ok (.ireturn, 1) := by decide +kernel
theorem dX11_lay_22 : decode cX11_lay 22 = .ok (.aload 4, 2) := by decide +kernel
theorem dX11_lay_24 : decode cX11_lay 24 = .ok (.invokevirtual 90, 3) := by decide +kernel
theorem dX11_lay_27 : decode cX11_lay 27 = .ok (.ifCond .eq 19, 3) := by decide +kernel
theorem dX11_lay_30 : decode cX11_lay 30 = .ok (.aload_n 0, 1) := by decide +kernel
theorem dX11_lay_31 : decode cX11_lay 31 = .ok (.aload 4, 2) := by decide +kernel
theorem dX11_lay_33 : decode cX11_lay 33 = .ok (.aload_n 0, 1) := by decide +kernel
theorem dX11_lay_34 : decode cX11_lay 34 = .ok (.getfield 43, 3) := by decide +kernel
theorem dX11_lay_37 : decode cX11_lay 37 = .ok (.iconst 3, 1) := by decide +kernel
theorem dX11_lay_38 : decode cX11_lay 38 = .ok (.iload_n 2, 1) := by decide +kernel
theorem dX11_lay_39 : decode cX11_lay 39 = .ok (.iload_n 3, 1) := by decide +kernel
theorem dX11_lay_40 : decode cX11_lay 40 = .ok (.invokevirtual 190, 3) := by decide +kernel
theorem dX11_lay_43 : decode cX11_lay 43 = .ok (.goto 5, 3) := by decide +kernel
theorem dX11_lay_46 : decode cX11_lay 46 = .ok (.bipush (-4), 2) := by decide +kernel
theorem dX11_lay_48 : decode cX11_lay 48 = .ok (.ireturn, 1) := by decide +kernel
theorem dX11_revoke_0 : decode cX11_revoke 0 = .ok (.aload_n 0, 1) := by decide +kernel
theorem dX11_revoke_1 : decode cX11_revoke 1 = .ok (.iload_n 1, 1) := by decide +kernel
theorem dX11_revoke_2 : decode cX11_revoke 2 = .ok (.invokevirtual 83, 3) := by decide +kernel
theorem dX11_revoke_5 : decode cX11_revoke 5 = .ok (.astore 4, 2) := by decide +kernel
theorem dX11_revoke_7 : decode cX11_revoke 7 = .ok (.aload 4, 2) := by decide +kernel
theorem dX11_revoke_9 : decode cX11_revoke 9 = .ok (.ifnull 10, 3) := by decide +kernel
theorem dX11_revoke_12 : decode cX11_revoke 12 = .ok (.iload_n 2, 1) := by decide +kernel
theorem dX11_revoke_13 : decode cX11_revoke 13 = .ok (.invokestatic 87, 3) := by decide +kernel
theorem dX11_revoke_16 : decode cX11_revoke 16 = .ok (.ifCond .ne 6, 3) := by decide +kernel
theorem dX11_revoke_19 : decode cX11_revoke 19 = .ok (.bipush (-2), 2) := by decide +kernel
theorem dX11_revoke_21 : decode cX11_revoke 21 = .ok (.ireturn, 1) := by decide +kernel
theorem dX11_revoke_22 : decode cX11_revoke 22 = .ok (.aload 4, 2) := by decide +kernel
theorem dX11_revoke_24 : decode cX11_revoke 24 = .ok (.invokevirtual 90, 3) := by decide +kernel
theorem dX11_revoke_27 : decode cX11_revoke 27 = .ok (.ifCond .eq 19, 3) := by decide +kernel
theorem dX11_revoke_30 : decode cX11_revoke 30 = .ok (.aload_n 0, 1) := by decide +kernel
theorem dX11_revoke_31 : decode cX11_revoke 31 = .ok (.aload 4, 2) := by decide +kernel
theorem dX11_revoke_33 : decode cX11_revoke 33 = .ok (.aload_n 0, 1) := by decide +kernel
theorem dX11_revoke_34 : decode cX11_revoke 34 = .ok (.getfield 43, 3) := by decide +kernel
theorem dX11_revoke_37 : decode cX11_revoke 37 = .ok (.iconst 4, 1) := by decide +kernel
theorem dX11_revoke_38 : decode cX11_revoke 38 = .ok (.iload_n 2, 1) := by decide +kernel
theorem dX11_revoke_39 : decode cX11_revoke 39 = .ok (.iload_n 3, 1) := by decide +kernel
theorem dX11_revoke_40 : decode cX11_revoke 40 = .ok (.invokevirtual 190, 3) := by decide +kernel
theorem dX11_revoke_43 : decode cX11_revoke 43 = .ok (.goto 5, 3) := by decide +kernel
theorem dX11_revoke_46 : decode cX11_revoke 46 = .ok (.bipush (-4), 2) := by decide +kernel
theorem dX11_revoke_48 : decode cX11_revoke 48 = .ok (.ireturn, 1) := by decide +kernel
theorem dX11_allowed_0 : decode cX11_allowed 0 = .ok (.aload_n 0, 1) := by decide +kernel
theorem dX11_allowed_1 : decode cX11_allowed 1 = .ok (.iload_n 1, 1) := by decide +kernel
theorem dX11_allowed_2 : decode cX11_allowed 2 = .ok (.invokevirtual 83, 3) := by decide +kernel
theorem dX11_allowed_5 : decode cX11_allowed 5 = .ok (.astore 4, 2) := by decide +kernel
theorem dX11_allowed_7 : decode cX11_allowed 7 = .ok (.aload 4, 2) := by decide +kernel
theorem dX11_allowed_9 : decode cX11_allowed 9 = .ok (.ifnull 10, 3) := by decide +kernel
theorem dX11_allowed_12 : decode cX11_allowed 12 = .ok (.iload_n 2, 1) := by decide +kernel
theorem dX11_allowed_13 : decode cX11_allowed 13 = .ok (.invokestatic 87, 3) := by decide +kernel
theorem dX11_allowed_16 : decode cX11_allowed 16 = .ok (.ifCond .ne 6, 3) := by decide +kernel
theorem dX11_allowed_19 : decode cX11_allowed 19 = .ok (.bipush (-2), 2) := by decide +kernel
theorem dX11_allowed_21 : decode cX11_allowed 21 = .ok (.ireturn, 1) := by decide +kernel
theorem dX11_allowed_22 : decode cX11_allowed 22 = .ok (.aload 4, 2) := by decide +kernel
theorem dX11_allowed_24 : decode cX11_allowed 24 = .ok (.invokevirtual 90, 3) := by decide +kernel
theorem dX11_allowed_27 : decode cX11_allowed 27 = .ok (.ifCond .ne 6, 3) := by decide +kernel
theorem dX11_allowed_30 : decode cX11_allowed 30 = .ok (.bipush (-4), 2) := by decide +kernel
theorem dX11_allowed_32 : decode cX11_allowed 32 = .ok (.ireturn, 1) := by decide +kernel
theorem dX11_allowed_33 : decode cX11_allowed 33 = .ok (.aload 4, 2) := by decide +kernel
theorem dX11_allowed_35 : decode cX11_allowed 35 = .ok (.iload_n 2, 1) := by decide +kernel
theorem dX11_allowed_36 : decode cX11_allowed 36 = .ok (.iload_n 3, 1) := by decide +kernel
theorem dX11_allowed_37 : decode cX11_allowed 37 = .ok (.iconst 0, 1) := by decide +kernel
theorem dX11_allowed_38 : decode cX11_allowed 38 = .ok (.invokevirtual 194, 3) := by decide +kernel
theorem dX11_allowed_41 : decode cX11_allowed 41 = .ok (.istore 5, 2) := by decide +kernel
theorem dX11_allowed_43 : decode cX11_allowed 43 = .ok (.iload 5, 2) := by decide +kernel
theorem dX11_allowed_45 : decode cX11_allowed 45 = .ok (.ifCond .eq 11, 3) := by decide +kernel
theorem dX11_allowed_48 : decode cX11_allowed 48 = .ok (.bipush (-10), 2) := by decide +kernel
theorem dX11_allowed_50 : decode cX11_allowed 50 = .ok (.iload 5, 2) := by decide +kernel
theorem dX11_allowed_52 : decode cX11_allowed 52 = .ok (.isub, 1) := by decide +kernel
theorem dX11_allowed_53 : decode cX11_allowed 53 = .ok (.goto 14, 3) := by decide +kernel
theorem dX11_allowed_56 : decode cX11_allowed 56 = .ok (.aload 4, 2) := by decide +kernel
theorem dX11_allowed_58 : decode cX11_allowed 58 = .ok (.aload_n 0, 1) := by decide +kernel
theorem dX11_allowed_59 : decode cX11_allowed 59 = .ok (.getfield 43, 3) := by decide +kernel
theorem dX11_allowed_62 : decode cX11_allowed 62 = .ok (.iload_n 2, 1) := by decide +kernel
theorem dX11_allowed_63 : decode cX11_allowed 63 = .ok (.iload_n 3, 1) := by decide +kernel
theorem dX11_allowed_64 : decode cX11_allowed 64 = .ok (.invokevirtual 198, 3) := by decide +kernel
theorem dX11_allowed_67 : decode cX11_allowed 67 = .ok (.ireturn, 1) := by decide +kernel
theorem dX11_turn_0 : decode cX11_turn 0 = .ok (.aload_n 0, 1) := by decide +kernel
theorem dX11_turn_1 : decode cX11_turn 1 = .ok (.iload_n 1, 1) := by decide +kernel
theorem dX11_turn_2 : decode cX11_turn 2 = .ok (.invokevirtual 83, 3) := by decide +kernel
theorem dX11_turn_5 : decode cX11_turn 5 = .ok (.astore_n 2, 1) := by decide +kernel
theorem dX11_turn_6 : decode cX11_turn 6 = .ok (.aload_n 2, 1) := by decide +kernel
theorem dX11_turn_7 : decode cX11_turn 7 = .ok (.ifnonnull 8, 3) := by decide +kernel
theorem dX11_turn_10 : decode cX11_turn 10 = .ok (.bipush (-2), 2) := by decide +kernel
theorem dX11_turn_12 : decode cX11_turn 12 = .ok (.goto 10, 3) := by decide +kernel
theorem dX11_turn_15 : decode cX11_turn 15 = .ok (.aload_n 2, 1) := by decide +kernel
theorem dX11_turn_16 : decode cX11_turn 16 = .ok (.getfield 135, 3) := by decide +kernel
theorem dX11_turn_19 : decode cX11_turn 19 = .ok (.getfield 139, 3) := by decide +kernel
theorem dX11_turn_22 : decode cX11_turn 22 = .ok (.ireturn, 1) := by decide +kernel
theorem dX11_trick_0 : decode cX11_trick 0 = .ok (.aload_n 0, 1) := by decide +kernel
theorem dX11_trick_1 : decode cX11_trick 1 = .ok (.iload_n 1, 1) := by decide +kernel
theorem dX11_trick_2 : decode cX11_trick 2 = .ok (.invokevirtual 83, 3) := by decide +kernel
theorem dX11_trick_5 : decode cX11_trick 5 = .ok (.astore_n 3, 1) := by decide +kernel
theorem dX11_trick_6 : decode cX11_trick 6 = .ok (.aload_n 3, 1) := by decide +kernel
theorem dX11_trick_7 : decode cX11_trick 7 = .ok (.ifnonnull 8, 3) := by decide +kernel
theorem dX11_trick_10 : decode cX11_trick 10 = .ok (.bipush (-2), 2) := by decide +kernel
theorem dX11_trick_12 : decode cX11_trick 12 = .ok (.goto 11, 3) := by decide +kernel
theorem dX11_trick_15 : decode cX11_trick 15 = .ok (.aload_n 3, 1) := by decide +kernel
theorem dX11_trick_16 : decode cX11_trick 16 = .ok (.getfield 201, 3) := by decide +kernel
theorem dX11_trick_19 : decode cX11_trick 19 = .ok (.iload_n 2, 1) := by decide +kernel
theorem dX11_trick_20 : decode cX11_trick 20 = .ok (.invokevirtual 204, 3) := by decide +kernel
theorem dX11_trick_23 : decode cX11_trick 23 = .ok (.ireturn, 1) := by decide +kernel
theorem dX11_hand_0 : decode cX11_hand 0 = .ok (.aload_n 0, 1) := by decide +kernel
theorem dX11_hand_1 : decode cX11_hand 1 = .ok (.iload_n 1, 1) := by decide +kernel
theorem dX11_hand_2 : decode cX11_hand 2 = .ok (.invokevirtual 83, 3) := by decide +kernel
theorem dX11_hand_5 : decode cX11_hand 5 = .ok (.astore 4, 2) := by decide +kernel
theorem dX11_hand_7 : decode cX11_hand 7 = .ok (.aload 4, 2) := by decide +kernel
theorem dX11_hand_9 : decode cX11_hand 9 = .ok (.ifnull 10, 3) := by decide +kernel
theorem dX11_hand_12 : decode cX11_hand 12 = .ok (.iload_n 2, 1) := by decide +kernel
theorem dX11_hand_13 : decode cX11_hand 13 = .ok (.invokestatic 87, 3) := by decide +kernel
theorem dX11_hand_16 : decode cX11_hand 16 = .ok (.ifCond .ne 6, 3) := by decide +kernel
theorem dX11_hand_19 : decode cX11_hand 19 = .ok (.bipush (-2), 2) := by decide +kernel
theorem dX11_hand_21 : decode cX11_hand 21 = .ok (.ireturn, 1) := by decide +kernel
theorem dX11_hand_22 : decode cX11_hand 22 = .ok (.aload 4, 2) := by decide +kernel
theorem dX11_hand_24 : decode cX11_hand 24 = .ok (.iload_n 2, 1) := by decide +kernel
theorem dX11_hand_25 : decode cX11_hand 25 = .ok (.invokevirtual 208, 3) := by decide +kernel
theorem dX11_hand_28 : decode cX11_hand 28 = .ok (.astore 5, 2) := by decide +kernel
theorem dX11_hand_30 : decode cX11_hand 30 = .ok (.aload 5, 2) := by decide +kernel
theorem dX11_hand_32 : decode cX11_hand 32 = .ok (.getfield 212, 3) := by decide +kernel
theorem dX11_hand_35 : decode cX11_hand 35 = .ok (.ifCond .ge 8, 3) := by decide +kernel
theorem dX11_hand_38 : decode cX11_hand 38 = .ok (.bipush (-12), 2) := by decide +kernel
theorem dX11_hand_40 : decode cX11_hand 40 = .ok (.goto 9, 3) := by decide +kernel
theorem dX11_hand_43 : decode cX11_hand 43 = .ok (.aload 5, 2) := by decide +kernel
theorem dX11_hand_45 : decode cX11_hand 45 = .ok (.iload_n 3, 1) := by decide +kernel
theorem dX11_hand_46 : decode cX11_hand 46 = .ok (.invokevirtual 204, 3) := by decide +kernel
theorem dX11_hand_49 : decode cX11_hand 49 = .ok (.ireturn, 1) := by decide +kernel
theorem dX11_left_0 : decode cX11_left 0 = .ok (.aload_n 0, 1) := by decide +kernel
theorem dX11_left_1 : decode cX11_left 1 = .ok (.iload_n 1, 1) := by decide +kernel
theorem dX11_left_2 : decode cX11_left 2 = .ok (.invokevirtual 83, 3) := by decide +kernel
theorem dX11_left_5 : decode cX11_left 5 = .ok (.astore_n 3, 1) := by decide +kernel
theorem dX11_left_6 : decode cX11_left 6 = .ok (.aload_n 3, 1) := by decide +kernel
theorem dX11_left_7 : decode cX11_left 7 = .ok (.ifnull 15, 3) := by decide +kernel
theorem dX11_left_10 : decode cX11_left 10 = .ok (.iload_n 2, 1) := by decide +kernel
theorem dX11_left_11 : decode cX11_left 11 = .ok (.invokestatic 87, 3) := by decide +kernel
theorem dX11_left_14 : decode cX11_left 14 = .ok (.ifCond .ne 11, 3) := by decide +kernel
theorem dX11_left_17 : decode cX11_left 17 = .ok (.iload_n 2, 1) := by decide +kernel
theorem dX11_left_18 : decode cX11_left 18 = .ok (.iconst 4, 1) := by decide +kernel
theorem dX11_left_19 : decode cX11_left 19 = .ok (.if_icmp .eq 6, 3) := by decide +kernel
theorem dX11_left_22 : decode cX11_left 22 = .ok (.bipush (-2), 2) := by decide +kernel
theorem dX11_left_24 : decode cX11_left 24 = .ok (.ireturn, 1) := by decide +kernel
theorem dX11_left_25 : decode cX11_left 25 = .ok (.iload_n 2, 1) := by decide +kernel
theorem dX11_left_26 : decode cX11_left 26 = .ok (.iconst 4, 1) := by decide +kernel
theorem dX11_left_27 : decode cX11_left 27 = .ok (.if_icmp .ne 13, 3) := by decide +kernel
theorem dX11_left_30 : decode cX11_left 30 = .ok (.aload_n 3, 1) := by decide +kernel
theorem dX11_left_31 : decode cX11_left 31 = .ok (.getfield 215, 3) := by decide +kernel
theorem dX11_left_34 : decode cX11_left 34 = .ok (.getfield 212, 3) := by decide +kernel
theorem dX11_left_37 : decode cX11_left 37 = .ok (.goto 11, 3) := by decide +kernel
theorem dX11_left_40 : decode cX11_left 40 = .ok (.aload_n 3, 1) := by decide +kernel
theorem dX11_left_41 : decode cX11_left 41 = .ok (.iload_n 2, 1) := by decide +kernel
theorem dX11_left_42 : decode cX11_left 42 = .ok (.invokevirtual 208, 3) := by decide +kernel
theorem dX11_left_45 : decode cX11_left 45 = .ok (.getfield 212, 3) := by decide +kernel
theorem dX11_left_48 : decode cX11_left 48 = .ok (.ireturn, 1) := by decide +kernel
theorem dX11_winner_0 : decode cX11_winner 0 = .ok (.aload_n 0, 1) := by decide +kernel
theorem dX11_winner_1 : decode cX11_winner 1 = .ok (.iload_n 1, 1) := by decide +kernel
theorem dX11_winner_2 : decode cX11_winner 2 = .ok (.invokevirtual 83, 3) := by decide +kernel
theorem dX11_winner_5 : decode cX11_winner 5 = .ok (.astore_n 2, 1) := by decide +kernel
theorem dX11_winner_6 : decode cX11_winner 6 = .ok (.aload_n 2, 1) := by decide +kernel
theorem dX11_winner_7 : decode cX11_winner 7 = .ok (.ifnonnull 8, 3) := by decide +kernel
theorem dX11_winner_10 : decode cX11_winner 10 = .ok (.bipush (-2), 2) := by decide +kernel
theorem dX11_winner_12 : decode cX11_winner 12 = .ok (.goto 10, 3) := by decide +kernel
theorem dX11_winner_15 : decode cX11_winner 15 = .ok (.aload_n 2, 1) := by decide +kernel
theorem dX11_winner_16 : decode cX11_winner 16 = .ok (.getfield 135, 3) := by decide +kernel
theorem dX11_winner_19 : decode cX11_winner 19 = .ok (.getfield 218, 3) := by decide +kernel
theorem dX11_winner_22 : decode cX11_winner 22 = .ok (.ireturn, 1) := by decide +kernel
theorem dX11_won_0 : decode cX11_won 0 = .ok (.aload_n 0, 1) := by decide +kernel
theorem dX11_won_1 : decode cX11_won 1 = .ok (.iload_n 1, 1) := by decide +kernel
theorem dX11_won_2 : decode cX11_won 2 = .ok (.invokevirtual 83, 3) := by decide +kernel
theorem dX11_won_5 : decode cX11_won 5 = .ok (.astore 4, 2) := by decide +kernel
theorem dX11_won_7 : decode cX11_won 7 = .ok (.aload 4, 2) := by decide +kernel
theorem dX11_won_9 : decode cX11_won 9 = .ok (.ifnull 10, 3) := by decide +kernel
theorem dX11_won_12 : decode cX11_won 12 = .ok (.iload_n 2, 1) := by decide +kernel
theorem dX11_won_13 : decode cX11_won 13 = .ok (.invokestatic 221, 3) := by decide +kernel
theorem dX11_won_16 : decode cX11_won 16 = .ok (.ifCond .ne 6, 3) := by decide +kernel
theorem dX11_won_19 : decode cX11_won 19 = .ok (.bipush (-2), 2) := by decide +kernel
theorem dX11_won_21 : decode cX11_won 21 = .ok (.ireturn, 1) := by decide +kernel
theorem dX11_won_22 : decode cX11_won 22 = .ok (.iload_n 3, 1) := by decide +kernel
theorem dX11_won_23 : decode cX11_won 23 = .ok (.tableswitch 54 0 2 #[25, 36, 47], 25) := by decide +kernel
theorem dX11_won_48 : decode cX11_won 48 = .ok (.aload 4, 2) := by decide +kernel
theorem dX11_won_50 : decode cX11_won 50 = .ok (.getfield 135, 3) := by decide +kernel
theorem dX11_won_53 : decode cX11_won 53 = .ok (.getfield 224, 3) := by decide +kernel
theorem dX11_won_56 : decode cX11_won 56 = .ok (.iload_n 2, 1) := by decide +kernel
theorem dX11_won_57 : decode cX11_won 57 = .ok (.iaload, 1) := by decide +kernel
theorem dX11_won_58 : decode cX11_won 58 = .ok (.ireturn, 1) := by decide +kernel
theorem dX11_won_59 : decode cX11_won 59 = .ok (.aload 4, 2) := by decide +kernel
theorem dX11_won_61 : decode cX11_won 61 = .ok (.getfield 135, 3) := by decide +kernel
theorem dX11_won_64 : decode cX11_won 64 = .ok (.getfield 227, 3) := by decide +kernel
theorem dX11_won_67 : decode cX11_won 67 = .ok (.iload_n 2, 1) := by decide +kernel
theorem dX11_won_68 : decode cX11_won 68 = .ok (.iaload, 1) := by decide +kernel
theorem dX11_won_69 : decode cX11_won 69 = .ok (.ireturn, 1) := by decide +kernel
theorem dX11_won_70 : decode cX11_won 70 = .ok (.aload 4, 2) := by decide +kernel
theorem dX11_won_72 : decode cX11_won 72 = .ok (.iload_n 2, 1) := by decide +kernel
theorem dX11_won_73 : decode cX11_won 73 = .ok (.invokevirtual 230, 3) := by decide +kernel
theorem dX11_won_76 : decode cX11_won 76 = .ok (.ireturn, 1) := by decide +kernel
theorem dX11_won_77 : decode cX11_won 77 = .ok (.bipush (-3), 2) := by decide +kernel
theorem dX11_won_79 : decode cX11_won 79 = .ok (.ireturn, 1) := by decide +kernel
theorem dX11_revokes_0 : decode cX11_revokes 0 = .ok (.aload_n 0, 1) := by decide +kernel
theorem dX11_revokes_1 : decode cX11_revokes 1 = .ok (.iload_n 1, 1) := by decide +kernel
theorem dX11_revokes_2 : decode cX11_revokes 2 = .ok (.invokevirtual 83, 3) := by decide +kernel
theorem dX11_revokes_5 : decode cX11_revokes 5 = .ok (.astore 4, 2) := by decide +kernel
theorem dX11_revokes_7 : decode cX11_revokes 7 = .ok (.aload 4, 2) := by decide +kernel
theorem dX11_revokes_9 : decode cX11_revokes 9 = .ok (.ifnull 10, 3) := by decide +kernel
theorem dX11_revokes_12 : decode cX11_revokes 12 = .ok (.iload_n 2, 1) := by decide +kernel
theorem dX11_revokes_13 : decode cX11_revokes 13 = .ok (.invokestatic 87, 3) := by decide +kernel
theorem dX11_revokes_16 : decode cX11_revokes 16 = .ok (.ifCond .ne 6, 3) := by decide +kernel
theorem dX11_revokes_19 : decode cX11_revokes 19 = .ok (.bipush (-2), 2) := by decide +kernel
theorem dX11_revokes_21 : decode cX11_revokes 21 = .ok (.ireturn, 1) := by decide +kernel
theorem dX11_revokes_22 : decode cX11_revokes 22 = .ok (.iload_n 3, 1) := by decide +kernel
theorem dX11_revokes_23 : decode cX11_revokes 23 = .ok (.ifCond .lt 8, 3) := by decide +kernel
theorem dX11_revokes_26 : decode cX11_revokes 26 = .ok (.iload_n 3, 1) := by decide +kernel
theorem dX11_revokes_27 : decode cX11_revokes 27 = .ok (.iconst 1, 1) := by decide +kernel
theorem dX11_revokes_28 : decode cX11_revokes 28 = .ok (.if_icmp .le 6, 3) := by decide +kernel
theorem dX11_revokes_31 : decode cX11_revokes 31 = .ok (.bipush (-3), 2) := by decide +kernel
theorem dX11_revokes_33 : decode cX11_revokes 33 = .ok (.ireturn, 1) := by decide +kernel
theorem dX11_revokes_34 : decode cX11_revokes 34 = .ok (.aload 4, 2) := by decide +kernel
theorem dX11_revokes_36 : decode cX11_revokes 36 = .ok (.getfield 135, 3) := by decide +kernel
theorem dX11_revokes_39 : decode cX11_revokes 39 = .ok (.iload_n 2, 1) := by decide +kernel
theorem dX11_revokes_40 : decode cX11_revokes 40 = .ok (.iload_n 3, 1) := by decide +kernel
theorem dX11_revokes_41 : decode cX11_revokes 41 = .ok (.iconst 1, 1) := by decide +kernel
theorem dX11_revokes_42 : decode cX11_revokes 42 = .ok (.if_icmp .ne 7, 3) := by decide +kernel
theorem dX11_revokes_45 : decode cX11_revokes 45 = .ok (.iconst 1, 1) := by decide +kernel
theorem dX11_revokes_46 : decode cX11_revokes 46 = .ok (.goto 4, 3) := by decide +kernel
theorem dX11_revokes_49 : decode cX11_revokes 49 = .ok (.iconst 0, 1) := by decide +kernel
theorem dX11_revokes_50 : decode cX11_revokes 50 = .ok (.invokevirtual 233, 3) := by decide +kernel
theorem dX11_revokes_53 : decode cX11_revokes 53 = .ok (.ireturn, 1) := by decide +kernel
theorem dX11_sum_0 : decode cX11_sum 0 = .ok (.aload_n 0, 1) := by decide +kernel
theorem dX11_sum_1 : decode cX11_sum 1 = .ok (.iload_n 1, 1) := by decide +kernel
theorem dX11_sum_2 : decode cX11_sum 2 = .ok (.invokevirtual 83, 3) := by decide +kernel
theorem dX11_sum_5 : decode cX11_sum 5 = .ok (.astore_n 3, 1) := by decide +kernel
theorem dX11_sum_6 : decode cX11_sum 6 = .ok (.aload_n 3, 1) := by decide +kernel
theorem dX11_sum_7 : decode cX11_sum 7 = .ok (.ifnull 10, 3) := by decide +kernel
theorem dX11_sum_10 : decode cX11_sum 10 = .ok (.iload_n 2, 1) := by decide +kernel
theorem dX11_sum_11 : decode cX11_sum 11 = .ok (.invokestatic 87, 3) := by decide +kernel
theorem dX11_sum_14 : decode cX11_sum 14 = .ok (.ifCond .ne 8, 3) := by decide +kernel
theorem dX11_sum_17 : decode cX11_sum 17 = .ok (.bipush (-2), 2) := by decide +kernel
theorem dX11_sum_19 : decode cX11_sum 19 = .ok (.goto 9, 3) := by decide +kernel
theorem dX11_sum_22 : decode cX11_sum 22 = .ok (.aload_n 3, 1) := by decide +kernel
theorem dX11_sum_23 : decode cX11_sum 23 = .ok (.getfield 122, 3) := by decide +kernel
theorem dX11_sum_26 : decode cX11_sum 26 = .ok (.iload_n 2, 1) := by decide +kernel
theorem dX11_sum_27 : decode cX11_sum 27 = .ok (.iaload, 1) := by decide +kernel
theorem dX11_sum_28 : decode cX11_sum 28 = .ok (.ireturn, 1) := by decide +kernel
theorem dX11_tie_0 : decode cX11_tie 0 = .ok (.aload_n 0, 1) := by decide +kernel
theorem dX11_tie_1 : decode cX11_tie 1 = .ok (.iload_n 1, 1) := by decide +kernel
theorem dX11_tie_2 : decode cX11_tie 2 = .ok (.invokevirtual 83, 3) := by decide +kernel
theorem dX11_tie_5 : decode cX11_tie 5 = .ok (.astore_n 2, 1) := by decide +kernel
theorem dX11_tie_6 : decode cX11_tie 6 = .ok (.aload_n 2, 1) := by decide +kernel
theorem dX11_tie_7 : decode cX11_tie 7 = .ok (.ifnonnull 6, 3) := by decide +kernel
theorem dX11_tie_10 : decode cX11_tie 10 = .ok (.bipush (-2), 2) := by decide +kernel
theorem dX11_tie_12 : decode cX11_tie 12 = .ok (.ireturn, 1) := by decide +kernel
theorem dX11_tie_13 : decode cX11_tie 13 = .ok (.aload_n 2, 1) := by decide +kernel
theorem dX11_tie_14 : decode cX11_tie 14 = .ok (.getfield 122, 3) := by decide +kernel
theorem dX11_tie_17 : decode cX11_tie 17 = .ok (.iconst 0, 1) := by decide +kernel
theorem dX11_tie_18 : decode cX11_tie 18 = .ok (.iaload, 1) := by decide +kernel
theorem dX11_tie_19 : decode cX11_tie 19 = .ok (.aload_n 2, 1) := by decide +kernel
theorem dX11_tie_20 : decode cX11_tie 20 = .ok (.getfield 122, 3) := by decide +kernel
theorem dX11_tie_23 : decode cX11_tie 23 = .ok (.iconst 2, 1) := by decide +kernel
theorem dX11_tie_24 : decode cX11_tie 24 = .ok (.iaload, 1) := by decide +kernel
theorem dX11_tie_25 : decode cX11_tie 25 = .ok (.iadd, 1) := by decide +kernel
theorem dX11_tie_26 : decode cX11_tie 26 = .ok (.aload_n 2, 1) := by decide +kernel
theorem dX11_tie_27 : decode cX11_tie 27 = .ok (.getfield 122, 3) := by decide +kernel
theorem dX11_tie_30 : decode cX11_tie 30 = .ok (.iconst 1, 1) := by decide +kernel
theorem dX11_tie_31 : decode cX11_tie 31 = .ok (.iaload, 1) := by decide +kernel
theorem dX11_tie_32 : decode cX11_tie 32 = .ok (.isub, 1) := by decide +kernel
theorem dX11_tie_33 : decode cX11_tie 33 = .ok (.aload_n 2, 1) := by decide +kernel
theorem dX11_tie_34 : decode cX11_tie 34 = .ok (.getfield 122, 3) := by decide +kernel
theorem dX11_tie_37 : decode cX11_tie 37 = .ok (.iconst 3, 1) := by decide +kernel
theorem dX11_tie_38 : decode cX11_tie 38 = .ok (.iaload, 1) := by decide +kernel
theorem dX11_tie_39 : decode cX11_tie 39 = .ok (.isub, 1) := by decide +kernel
theorem dX11_tie_40 : decode cX11_tie 40 = .ok (.istore_n 3, 1) := by decide +kernel
theorem dX11_tie_41 : decode cX11_tie 41 = .ok (.iload_n 3, 1) := by decide +kernel
theorem dX11_tie_42 : decode cX11_tie 42 = .ok (.ifCond .le 7, 3) := by decide +kernel
theorem dX11_tie_45 : decode cX11_tie 45 = .ok (.iconst 0, 1) := by decide +kernel
theorem dX11_tie_46 : decode cX11_tie 46 = .ok (.goto 12, 3) := by decide +kernel
theorem dX11_tie_49 : decode cX11_tie 49 = .ok (.iload_n 3, 1) := by decide +kernel
theorem dX11_tie_50 : decode cX11_tie 50 = .ok (.ifCond .ge 7, 3) := by decide +kernel
theorem dX11_tie_53 : decode cX11_tie 53 = .ok (.iconst 1, 1) := by decide +kernel
theorem dX11_tie_54 : decode cX11_tie 54 = .ok (.goto 4, 3) := by decide +kernel
theorem dX11_tie_57 : decode cX11_tie 57 = .ok (.iconst 2, 1) := by decide +kernel
theorem dX11_tie_58 : decode cX11_tie 58 = .ok (.ireturn, 1) := by decide +kernel
theorem dX11_best_0 : decode cX11_best 0 = .ok (.aload_n 0, 1) := by decide +kernel
theorem dX11_best_1 : decode cX11_best 1 = .ok (.iload_n 1, 1) := by decide +kernel
theorem dX11_best_2 : decode cX11_best 2 = .ok (.invokevirtual 83, 3) := by decide +kernel
theorem dX11_best_5 : decode cX11_best 5 = .ok (.astore_n 3, 1) := by decide +kernel
theorem dX11_best_6 : decode cX11_best 6 = .ok (.aload_n 3, 1) := by decide +kernel
theorem dX11_best_7 : decode cX11_best 7 = .ok (.ifnull 10, 3) := by decide +kernel
theorem dX11_best_10 : decode cX11_best 10 = .ok (.iload_n 2, 1) := by decide +kernel
theorem dX11_best_11 : decode cX11_best 11 = .ok (.invokestatic 221, 3) := by decide +kernel
theorem dX11_best_14 : decode cX11_best 14 = .ok (.ifCond .ne 6, 3) := by decide +kernel
theorem dX11_best_17 : decode cX11_best 17 = .ok (.bipush (-2), 2) := by decide +kernel
theorem dX11_best_19 : decode cX11_best 19 = .ok (.ireturn, 1) := by decide +kernel
theorem dX11_best_20 : decode cX11_best 20 = .ok (.aload_n 3, 1) := by decide +kernel
theorem dX11_best_21 : decode cX11_best 21 = .ok (.invokevirtual 237, 3) := by decide +kernel
theorem dX11_best_24 : decode cX11_best 24 = .ok (.ifCond .eq 15, 3) := by decide +kernel
theorem dX11_best_27 : decode cX11_best 27 = .ok (.aload_n 0, 1) := by decide +kernel
theorem dX11_best_28 : decode cX11_best 28 = .ok (.getfield 53, 3) := by decide +kernel
theorem dX11_best_31 : decode cX11_best 31 = .ok (.aload_n 3, 1) := by decide +kernel
theorem dX11_best_32 : decode cX11_best 32 = .ok (.iload_n 2, 1) := by decide +kernel
theorem dX11_best_33 : decode cX11_best 33 = .ok (.invokevirtual 240, 3) := by decide +kernel
theorem dX11_best_36 : decode cX11_best 36 = .ok (.goto 5, 3) := by decide +kernel
theorem dX11_best_39 : decode cX11_best 39 = .ok (.bipush (-4), 2) := by decide +kernel
theorem dX11_best_41 : decode cX11_best 41 = .ok (.ireturn, 1) := by decide +kernel
theorem dX11_line_0 : decode cX11_line 0 = .ok (.aload_n 0, 1) := by decide +kernel
theorem dX11_line_1 : decode cX11_line 1 = .ok (.iload_n 1, 1) := by decide +kernel
theorem dX11_line_2 : decode cX11_line 2 = .ok (.invokevirtual 83, 3) := by decide +kernel
theorem dX11_line_5 : decode cX11_line 5 = .ok (.astore 4, 2) := by decide +kernel
theorem dX11_line_7 : decode cX11_line 7 = .ok (.aload 4, 2) := by decide +kernel
theorem dX11_line_9 : decode cX11_line 9 = .ok (.ifnull 10, 3) := by decide +kernel
theorem dX11_line_12 : decode cX11_line 12 = .ok (.iload_n 2, 1) := by decide +kernel
theorem dX11_line_13 : decode cX11_line 13 = .ok (.invokestatic 221, 3) := by decide +kernel
theorem dX11_line_16 : decode cX11_line 16 = .ok (.ifCond .ne 6, 3) := by decide +kernel
theorem dX11_line_19 : decode cX11_line 19 = .ok (.bipush (-2), 2) := by decide +kernel
theorem dX11_line_21 : decode cX11_line 21 = .ok (.ireturn, 1) := by decide +kernel
theorem dX11_line_22 : decode cX11_line 22 = .ok (.aload 4, 2) := by decide +kernel
theorem dX11_line_24 : decode cX11_line 24 = .ok (.invokevirtual 237, 3) := by decide +kernel
theorem dX11_line_27 : decode cX11_line 27 = .ok (.ifCond .eq 17, 3) := by decide +kernel
theorem dX11_line_30 : decode cX11_line 30 = .ok (.aload_n 0, 1) := by decide +kernel
theorem dX11_line_31 : decode cX11_line 31 = .ok (.getfield 53, 3) := by decide +kernel
theorem dX11_line_34 : decode cX11_line 34 = .ok (.aload 4, 2) := by decide +kernel
theorem dX11_line_36 : decode cX11_line 36 = .ok (.iload_n 2, 1) := by decide +kernel
theorem dX11_line_37 : decode cX11_line 37 = .ok (.iload_n 3, 1) := by decide +kernel
theorem dX11_line_38 : decode cX11_line 38 = .ok (.invokevirtual 244, 3) := by decide +kernel
theorem dX11_line_41 : decode cX11_line 41 = .ok (.goto 5, 3) := by decide +kernel
theorem dX11_line_44 : decode cX11_line 44 = .ok (.bipush (-4), 2) := by decide +kernel
theorem dX11_line_46 : decode cX11_line 46 = .ok (.ireturn, 1) := by decide +kernel
theorem dX11_check_0 : decode cX11_check 0 = .ok (.aload_n 0, 1) := by decide +kernel
theorem dX11_check_1 : decode cX11_check 1 = .ok (.iload_n 1, 1) := by decide +kernel
theorem dX11_check_2 : decode cX11_check 2 = .ok (.invokevirtual 83, 3) := by decide +kernel
theorem dX11_check_5 : decode cX11_check 5 = .ok (.astore_n 3, 1) := by decide +kernel
theorem dX11_check_6 : decode cX11_check 6 = .ok (.aload_n 3, 1) := by decide +kernel
theorem dX11_check_7 : decode cX11_check 7 = .ok (.ifnull 10, 3) := by decide +kernel
theorem dX11_check_10 : decode cX11_check 10 = .ok (.iload_n 2, 1) := by decide +kernel
theorem dX11_check_11 : decode cX11_check 11 = .ok (.invokestatic 221, 3) := by decide +kernel
theorem dX11_check_14 : decode cX11_check 14 = .ok (.ifCond .ne 6, 3) := by decide +kernel
theorem dX11_check_17 : decode cX11_check 17 = .ok (.bipush (-2), 2) := by decide +kernel
theorem dX11_check_19 : decode cX11_check 19 = .ok (.ireturn, 1) := by decide +kernel
theorem dX11_check_20 : decode cX11_check 20 = .ok (.aload_n 3, 1) := by decide +kernel
theorem dX11_check_21 : decode cX11_check 21 = .ok (.invokevirtual 237, 3) := by decide +kernel
theorem dX11_check_24 : decode cX11_check 24 = .ok (.ifCond .ne 6, 3) := by decide +kernel
theorem dX11_check_27 : decode cX11_check 27 = .ok (.bipush (-4), 2) := by decide +kernel
theorem dX11_check_29 : decode cX11_check 29 = .ok (.ireturn, 1) := by decide +kernel
theorem dX11_check_30 : decode cX11_check 30 = .ok (.aload_n 0, 1) := by decide +kernel
theorem dX11_check_31 : decode cX11_check 31 = .ok (.getfield 53, 3) := by decide +kernel
theorem dX11_check_34 : decode cX11_check 34 = .ok (.aload_n 3, 1) := by decide +kernel
theorem dX11_check_35 : decode cX11_check 35 = .ok (.iload_n 2, 1) := by decide +kernel
theorem dX11_check_36 : decode cX11_check 36 = .ok (.invokevirtual 248, 3) := by decide +kernel
theorem dX11_check_39 : decode cX11_check 39 = .ok (.aload_n 0, 1) := by decide +kernel
theorem dX11_check_40 : decode cX11_check 40 = .ok (.getfield 53, 3) := by decide +kernel
theorem dX11_check_43 : decode cX11_check 43 = .ok (.aload_n 3, 1) := by decide +kernel
theorem dX11_check_44 : decode cX11_check 44 = .ok (.getfield 135, 3) := by decide +kernel
theorem dX11_check_47 : decode cX11_check 47 = .ok (.getfield 139, 3) := by decide +kernel
theorem dX11_check_50 : decode cX11_check 50 = .ok (.iconst 0, 1) := by decide +kernel
theorem dX11_check_51 : decode cX11_check 51 = .ok (.invokevirtual 251, 3) := by decide +kernel
theorem dX11_check_54 : decode cX11_check 54 = .ok (.istore 4, 2) := by decide +kernel
theorem dX11_check_56 : decode cX11_check 56 = .ok (.aload_n 0, 1) := by decide +kernel
theorem dX11_check_57 : decode cX11_check 57 = .ok (.getfield 53, 3) := by decide +kernel
theorem dX11_check_60 : decode cX11_check 60 = .ok (.aload_n 3, 1) := by decide +kernel
theorem dX11_check_61 : decode cX11_check 61 = .ok (.getfield 135, 3) := by decide +kernel
theorem dX11_check_64 : decode cX11_check 64 = .ok (.getfield 139, 3) := by decide +kernel
theorem dX11_check_67 : decode cX11_check 67 = .ok (.iconst 0, 1) := by decide +kernel
theorem dX11_check_68 : decode cX11_check 68 = .ok (.invokevirtual 254, 3) := by decide +kernel
theorem dX11_check_71 : decode cX11_check 71 = .ok (.iload 4, 2) := by decide +kernel
theorem dX11_check_73 : decode cX11_check 73 = .ok (.if_icmp .lt 7, 3) := by decide +kernel
theorem dX11_check_76 : decode cX11_check 76 = .ok (.iconst 1, 1) := by decide +kernel
theorem dX11_check_77 : decode cX11_check 77 = .ok (.goto 4, 3) := by decide +kernel
theorem dX11_check_80 : decode cX11_check 80 = .ok (.iconst 0, 1) := by decide +kernel
theorem dX11_check_81 : decode cX11_check 81 = .ok (.ireturn, 1) := by decide +kernel
theorem dX11_claim_0 : decode cX11_claim 0 = .ok (.aload_n 0, 1) := by decide +kernel
theorem dX11_claim_1 : decode cX11_claim 1 = .ok (.iload_n 1, 1) := by decide +kernel
theorem dX11_claim_2 : decode cX11_claim 2 = .ok (.invokevirtual 83, 3) := by decide +kernel
theorem dX11_claim_5 : decode cX11_claim 5 = .ok (.astore 4, 2) := by decide +kernel
theorem dX11_claim_7 : decode cX11_claim 7 = .ok (.aload 4, 2) := by decide +kernel
theorem dX11_claim_9 : decode cX11_claim 9 = .ok (.ifnull 10, 3) := by decide +kernel
theorem dX11_claim_12 : decode cX11_claim 12 = .ok (.iload_n 2, 1) := by decide +kernel
theorem dX11_claim_13 : decode cX11_claim 13 = .ok (.invokestatic 221, 3) := by decide +kernel
theorem dX11_claim_16 : decode cX11_claim 16 = .ok (.ifCond .ne 6, 3) := by decide +kernel
theorem dX11_claim_19 : decode cX11_claim 19 = .ok (.bipush (-2), 2) := by decide +kernel
theorem dX11_claim_21 : decode cX11_claim 21 = .ok (.ireturn, 1) := by decide +kernel
theorem dX11_claim_22 : decode cX11_claim 22 = .ok (.iload_n 3, 1) := by decide +kernel
theorem dX11_claim_23 : decode cX11_claim 23 = .ok (.ifCond .lt 8, 3) := by decide +kernel
theorem dX11_claim_26 : decode cX11_claim 26 = .ok (.iload_n 3, 1) := by decide +kernel
theorem dX11_claim_27 : decode cX11_claim 27 = .ok (.iconst 4, 1) := by decide +kernel
theorem dX11_claim_28 : decode cX11_claim 28 = .ok (.if_icmp .le 6, 3) := by decide +kernel
theorem dX11_claim_31 : decode cX11_claim 31 = .ok (.bipush (-3), 2) := by decide +kernel
theorem dX11_claim_33 : decode cX11_claim 33 = .ok (.ireturn, 1) := by decide +kernel
theorem dX11_claim_34 : decode cX11_claim 34 = .ok (.aload 4, 2) := by decide +kernel
theorem dX11_claim_36 : decode cX11_claim 36 = .ok (.invokevirtual 237, 3) := by decide +kernel
theorem dX11_claim_39 : decode cX11_claim 39 = .ok (.ifCond .ne 6, 3) := by decide +kernel
theorem dX11_claim_42 : decode cX11_claim 42 = .ok (.bipush (-4), 2) := by decide +kernel
theorem dX11_claim_44 : decode cX11_claim 44 = .ok (.ireturn, 1) := by decide +kernel
theorem dX11_claim_45 : decode cX11_claim 45 = .ok (.aload_n 0, 1) := by decide +kernel
theorem dX11_claim_46 : decode cX11_claim 46 = .ok (.getfield 53, 3) := by decide +kernel
theorem dX11_claim_49 : decode cX11_claim 49 = .ok (.aload 4, 2) := by decide +kernel
theorem dX11_claim_51 : decode cX11_claim 51 = .ok (.iload_n 2, 1) := by decide +kernel
theorem dX11_claim_52 : decode cX11_claim 52 = .ok (.invokevirtual 240, 3) := by decide +kernel
theorem dX11_claim_55 : decode cX11_claim 55 = .ok (.iload_n 3, 1) := by decide +kernel
theorem dX11_claim_56 : decode cX11_claim 56 = .ok (.if_icmp .lt 7, 3) := by decide +kernel
theorem dX11_claim_59 : decode cX11_claim 59 = .ok (.iconst 1, 1) := by decide +kernel
theorem dX11_claim_60 : decode cX11_claim 60 = .ok (.goto 4, 3) := by decide +kernel
theorem dX11_claim_63 : decode cX11_claim 63 = .ok (.iconst 0, 1) := by decide +kernel
theorem dX11_claim_64 : decode cX11_claim 64 = .ok (.istore 5, 2) := by decide +kernel
theorem dX11_claim_66 : decode cX11_claim 66 = .ok (.iload 5, 2) := by decide +kernel
theorem dX11_claim_68 : decode cX11_claim 68 = .ok (.ifCond .eq 9, 3) := by decide +kernel
theorem dX11_claim_71 : decode cX11_claim 71 = .ok (.aload_n 0, 1) := by decide +kernel
theorem dX11_claim_72 : decode cX11_claim 72 = .ok (.aload 4, 2) := by decide +kernel
theorem dX11_claim_74 : decode cX11_claim 74 = .ok (.invokevirtual 144, 3) := by decide +kernel
theorem dX11_claim_77 : decode cX11_claim 77 = .ok (.aload 4, 2) := by decide +kernel
theorem dX11_claim_79 : decode cX11_claim 79 = .ok (.getfield 135, 3) := by decide +kernel
theorem dX11_claim_82 : decode cX11_claim 82 = .ok (.getfield 160, 3) := by decide +kernel
theorem dX11_claim_85 : decode cX11_claim 85 = .ok (.iconst 5, 1) := by decide +kernel
theorem dX11_claim_86 : decode cX11_claim 86 = .ok (.iload_n 2, 1) := by decide +kernel
theorem dX11_claim_87 : decode cX11_claim 87 = .ok (.iload_n 3, 1) := by decide +kernel
theorem dX11_claim_88 : decode cX11_claim 88 = .ok (.iconst 0, 1) := by decide +kernel
theorem dX11_claim_89 : decode cX11_claim 89 = .ok (.invokestatic 164, 3) := by decide +kernel
theorem dX11_claim_92 : decode cX11_claim 92 = .ok (.invokevirtual 168, 3) := by decide +kernel
theorem dX11_claim_95 : decode cX11_claim 95 = .ok (.iload 5, 2) := by decide +kernel
theorem dX11_claim_97 : decode cX11_claim 97 = .ok (.ifCond .eq 14, 3) := by decide +kernel
theorem dX11_claim_100 : decode cX11_claim 100 = .ok (.aload 4, 2) := by decide +kernel
theorem dX11_claim_102 : decode cX11_claim 102 = .ok (.aload_n 0, 1) := by decide +kernel
theorem dX11_claim_103 : decode cX11_claim 103 = .ok (.getfield 43, 3) := by decide +kernel
theorem dX11_claim_106 : decode cX11_claim 106 = .ok (.iload_n 2, 1) := by decide +kernel
theorem dX11_claim_107 : decode cX11_claim 107 = .ok (.iload_n 3, 1) := by decide +kernel
theorem dX11_claim_108 : decode cX11_claim 108 = .ok (.invokevirtual 257, 3) := by decide +kernel
theorem dX11_claim_111 : decode cX11_claim 111 = .ok (.iload 5, 2) := by decide +kernel
theorem dX11_claim_113 : decode cX11_claim 113 = .ok (.ifCond .eq 7, 3) := by decide +kernel
theorem dX11_claim_116 : decode cX11_claim 116 = .ok (.iconst 1, 1) := by decide +kernel
theorem dX11_claim_117 : decode cX11_claim 117 = .ok (.goto 4, 3) := by decide +kernel
theorem dX11_claim_120 : decode cX11_claim 120 = .ok (.iconst 0, 1) := by decide +kernel
theorem dX11_claim_121 : decode cX11_claim 121 = .ok (.ireturn, 1) := by decide +kernel
theorem dX11_undo_0 : decode cX11_undo 0 = .ok (.aload_n 0, 1) := by decide +kernel
theorem dX11_undo_1 : decode cX11_undo 1 = .ok (.iload_n 1, 1) := by decide +kernel
theorem dX11_undo_2 : decode cX11_undo 2 = .ok (.invokevirtual 83, 3) := by decide +kernel
theorem dX11_undo_5 : decode cX11_undo 5 = .ok (.astore_n 2, 1) := by decide +kernel
theorem dX11_undo_6 : decode cX11_undo 6 = .ok (.aload_n 2, 1) := by decide +kernel
theorem dX11_undo_7 : decode cX11_undo 7 = .ok (.ifnonnull 6, 3) := by decide +kernel
theorem dX11_undo_10 : decode cX11_undo 10 = .ok (.bipush (-2), 2) := by decide +kernel
theorem dX11_undo_12 : decode cX11_undo 12 = .ok (.ireturn, 1) := by decide +kernel
theorem dX11_undo_13 : decode cX11_undo 13 = .ok (.aload_n 0, 1) := by decide +kernel
theorem dX11_undo_14 : decode cX11_undo 14 = .ok (.getfield 31, 3) := by decide +kernel
theorem dX11_undo_17 : decode cX11_undo 17 = .ok (.iload_n 1, 1) := by decide +kernel
theorem dX11_undo_18 : decode cX11_undo 18 = .ok (.iaload, 1) := by decide +kernel
theorem dX11_undo_19 : decode cX11_undo 19 = .ok (.ifCond .gt 6, 3) := by decide +kernel
theorem dX11_undo_22 : decode cX11_undo 22 = .ok (.bipush (-4), 2) := by decide +kernel
theorem dX11_undo_24 : decode cX11_undo 24 = .ok (.ireturn, 1) := by decide +kernel
theorem dX11_undo_25 : decode cX11_undo 25 = .ok (.aload_n 0, 1) := by decide +kernel
theorem dX11_undo_26 : decode cX11_undo 26 = .ok (.getfield 31, 3) := by decide +kernel
theorem dX11_undo_29 : decode cX11_undo 29 = .ok (.iload_n 1, 1) := by decide +kernel
theorem dX11_undo_30 : decode cX11_undo 30 = .ok (.dup2, 1) := by decide +kernel
theorem dX11_undo_31 : decode cX11_undo 31 = .ok (.iaload, 1) := by decide +kernel
theorem dX11_undo_32 : decode cX11_undo 32 = .ok (.iconst 1, 1) := by decide +kernel
theorem dX11_undo_33 : decode cX11_undo 33 = .ok (.isub, 1) := by decide +kernel
theorem dX11_undo_34 : decode cX11_undo 34 = .ok (.iastore, 1) := by decide +kernel
theorem dX11_undo_35 : decode cX11_undo 35 = .ok (.aload_n 0, 1) := by decide +kernel
theorem dX11_undo_36 : decode cX11_undo 36 = .ok (.getfield 27, 3) := by decide +kernel
theorem dX11_undo_39 : decode cX11_undo 39 = .ok (.iload_n 1, 1) := by decide +kernel
theorem dX11_undo_40 : decode cX11_undo 40 = .ok (.aload_n 0, 1) := by decide +kernel
theorem dX11_undo_41 : decode cX11_undo 41 = .ok (.getfield 27, 3) := by decide +kernel
theorem dX11_undo_44 : decode cX11_undo 44 = .ok (.iload_n 1, 1) := by decide +kernel
theorem dX11_undo_45 : decode cX11_undo 45 = .ok (.iaload, 1) := by decide +kernel
theorem dX11_undo_46 : decode cX11_undo 46 = .ok (.bipush 8, 2) := by decide +kernel
theorem dX11_undo_48 : decode cX11_undo 48 = .ok (.iadd, 1) := by decide +kernel
theorem dX11_undo_49 : decode cX11_undo 49 = .ok (.iconst 1, 1) := by decide +kernel
theorem dX11_undo_50 : decode cX11_undo 50 = .ok (.isub, 1) := by decide +kernel
theorem dX11_undo_51 : decode cX11_undo 51 = .ok (.bipush 7, 2) := by decide +kernel
theorem dX11_undo_53 : decode cX11_undo 53 = .ok (.iand, 1) := by decide +kernel
theorem dX11_undo_54 : decode cX11_undo 54 = .ok (.iastore, 1) := by decide +kernel
theorem dX11_undo_55 : decode cX11_undo 55 = .ok (.aload_n 2, 1) := by decide +kernel
theorem dX11_undo_56 : decode cX11_undo 56 = .ok (.aload_n 0, 1) := by decide +kernel
theorem dX11_undo_57 : decode cX11_undo 57 = .ok (.getfield 21, 3) := by decide +kernel
theorem dX11_undo_60 : decode cX11_undo 60 = .ok (.iload_n 1, 1) := by decide +kernel
theorem dX11_undo_61 : decode cX11_undo 61 = .ok (.bipush 8, 2) := by decide +kernel
theorem dX11_undo_63 : decode cX11_undo 63 = .ok (.imul, 1) := by decide +kernel
theorem dX11_undo_64 : decode cX11_undo 64 = .ok (.aload_n 0, 1) := by decide +kernel
theorem dX11_undo_65 : decode cX11_undo 65 = .ok (.getfield 27, 3) := by decide +kernel
theorem dX11_undo_68 : decode cX11_undo 68 = .ok (.iload_n 1, 1) := by decide +kernel
theorem dX11_undo_69 : decode cX11_undo 69 = .ok (.iaload, 1) := by decide +kernel
theorem dX11_undo_70 : decode cX11_undo 70 = .ok (.iadd, 1) := by decide +kernel
theorem dX11_undo_71 : decode cX11_undo 71 = .ok (.aaload, 1) := by decide +kernel
theorem dX11_undo_72 : decode cX11_undo 72 = .ok (.invokevirtual 261, 3) := by decide +kernel
theorem dX11_undo_75 : decode cX11_undo 75 = .ok (.aload_n 0, 1) := by decide +kernel
theorem dX11_undo_76 : decode cX11_undo 76 = .ok (.getfield 31, 3) := by decide +kernel
theorem dX11_undo_79 : decode cX11_undo 79 = .ok (.iload_n 1, 1) := by decide +kernel
theorem dX11_undo_80 : decode cX11_undo 80 = .ok (.iaload, 1) := by decide +kernel
theorem dX11_undo_81 : decode cX11_undo 81 = .ok (.ireturn, 1) := by decide +kernel
theorem dX11_replay_0 : decode cX11_replay 0 = .ok (.aload_n 0, 1) := by decide +kernel
theorem dX11_replay_1 : decode cX11_replay 1 = .ok (.iload_n 1, 1) := by decide +kernel
theorem dX11_replay_2 : decode cX11_replay 2 = .ok (.invokevirtual 83, 3) := by decide +kernel
theorem dX11_replay_5 : decode cX11_replay 5 = .ok (.astore_n 2, 1) := by decide +kernel
theorem dX11_replay_6 : decode cX11_replay 6 = .ok (.aload_n 2, 1) := by decide +kernel
theorem dX11_replay_7 : decode cX11_replay 7 = .ok (.ifnonnull 6, 3) := by decide +kernel
theorem dX11_replay_10 : decode cX11_replay 10 = .ok (.bipush (-2), 2) := by decide +kernel
theorem dX11_replay_12 : decode cX11_replay 12 = .ok (.ireturn, 1) := by decide +kernel
theorem dX11_replay_13 : decode cX11_replay 13 = .ok (.aload_n 2, 1) := by decide +kernel
theorem dX11_replay_14 : decode cX11_replay 14 = .ok (.getfield 135, 3) := by decide +kernel
theorem dX11_replay_17 : decode cX11_replay 17 = .ok (.astore_n 3, 1) := by decide +kernel
theorem dX11_replay_18 : decode cX11_replay 18 = .ok (.aload_n 3, 1) := by decide +kernel
theorem dX11_replay_19 : decode cX11_replay 19 = .ok (.getfield 264, 3) := by decide +kernel
theorem dX11_replay_22 : decode cX11_replay 22 = .ok (.ifCond .ne 6, 3) := by decide +kernel
theorem dX11_replay_25 : decode cX11_replay 25 = .ok (.bipush (-4), 2) := by decide +kernel
theorem dX11_replay_27 : decode cX11_replay 27 = .ok (.ireturn, 1) := by decide +kernel
theorem dX11_replay_28 : decode cX11_replay 28 = .ok (.aload_n 3, 1) := by decide +kernel
theorem dX11_replay_29 : decode cX11_replay 29 = .ok (.getfield 160, 3) := by decide +kernel
theorem dX11_replay_32 : decode cX11_replay 32 = .ok (.getfield 212, 3) := by decide +kernel
theorem dX11_replay_35 : decode cX11_replay 35 = .ok (.bipush 100, 2) := by decide +kernel
theorem dX11_replay_37 : decode cX11_replay 37 = .ok (.if_icmp .le 5, 3) := by decide +kernel
theorem dX11_replay_40 : decode cX11_replay 40 = .ok (.iconst 0, 1) := by decide +kernel
theorem dX11_replay_41 : decode cX11_replay 41 = .ok (.ireturn, 1) := by decide +kernel
theorem dX11_replay_42 : decode cX11_replay 42 = .ok (.aload_n 0, 1) := by decide +kernel
theorem dX11_replay_43 : decode cX11_replay 43 = .ok (.getfield 34, 3) := by decide +kernel
theorem dX11_replay_46 : decode cX11_replay 46 = .ok (.aload_n 2, 1) := by decide +kernel
theorem dX11_replay_47 : decode cX11_replay 47 = .ok (.invokevirtual 261, 3) := by decide +kernel
theorem dX11_replay_50 : decode cX11_replay 50 = .ok (.aload_n 0, 1) := by decide +kernel
theorem dX11_replay_51 : decode cX11_replay 51 = .ok (.getfield 34, 3) := by decide +kernel
theorem dX11_replay_54 : decode cX11_replay 54 = .ok (.aload_n 3, 1) := by decide +kernel
theorem dX11_replay_55 : decode cX11_replay 55 = .ok (.getfield 267, 3) := by decide +kernel
theorem dX11_replay_58 : decode cX11_replay 58 = .ok (.aload_n 3, 1) := by decide +kernel
theorem dX11_replay_59 : decode cX11_replay 59 = .ok (.getfield 270, 3) := by decide +kernel
theorem dX11_replay_62 : decode cX11_replay 62 = .ok (.invokevirtual 151, 3) := by decide +kernel
theorem dX11_replay_65 : decode cX11_replay 65 = .ok (.aload_n 3, 1) := by decide +kernel
theorem dX11_replay_66 : decode cX11_replay 66 = .ok (.getfield 160, 3) := by decide +kernel
theorem dX11_replay_69 : decode cX11_replay 69 = .ok (.getfield 212, 3) := by decide +kernel
theorem dX11_replay_72 : decode cX11_replay 72 = .ok (.istore 4, 2) := by decide +kernel
theorem dX11_replay_74 : decode cX11_replay 74 = .ok (.iconst 0, 1) := by decide +kernel
theorem dX11_replay_75 : decode cX11_replay 75 = .ok (.istore 5, 2) := by decide +kernel
theorem dX11_replay_77 : decode cX11_replay 77 = .ok (.iload 5, 2) := by decide +kernel
theorem dX11_replay_79 : decode cX11_replay 79 = .ok (.iload 4, 2) := by decide +kernel
theorem dX11_replay_81 : decode cX11_replay 81 = .ok (.if_icmp .ge 162, 3) := by decide +kernel
theorem dX11_replay_84 : decode cX11_replay 84 = .ok (.aload_n 3, 1) := by decide +kernel
theorem dX11_replay_85 : decode cX11_replay 85 = .ok (.getfield 160, 3) := by decide +kernel
theorem dX11_replay_88 : decode cX11_replay 88 = .ok (.iload 5, 2) := by decide +kernel
theorem dX11_replay_90 : decode cX11_replay 90 = .ok (.invokevirtual 204, 3) := by decide +kernel
theorem dX11_replay_93 : decode cX11_replay 93 = .ok (.istore 6, 2) := by decide +kernel
theorem dX11_replay_95 : decode cX11_replay 95 = .ok (.iload 6, 2) := by decide +kernel
theorem dX11_replay_97 : decode cX11_replay 97 = .ok (.bipush 10, 2) := by decide +kernel
theorem dX11_replay_99 : decode cX11_replay 99 = .ok (.ishr, 1) := by decide +kernel
theorem dX11_replay_100 : decode cX11_replay 100 = .ok (.bipush 7, 2) := by decide +kernel
theorem dX11_replay_102 : decode cX11_replay 102 = .ok (.iand, 1) := by decide +kernel
theorem dX11_replay_103 : decode cX11_replay 103 = .ok (.istore 7, 2) := by decide +kernel
theorem dX11_replay_105 : decode cX11_replay 105 = .ok (.iload 6, 2) := by decide +kernel
theorem dX11_replay_107 : decode cX11_replay 107 = .ok (.bipush 8, 2) := by decide +kernel
theorem dX11_replay_109 : decode cX11_replay 109 = .ok (.ishr, 1) := by decide +kernel
theorem dX11_replay_110 : decode cX11_replay 110 = .ok (.iconst 3, 1) := by decide +kernel
theorem dX11_replay_111 : decode cX11_replay 111 = .ok (.iand, 1) := by decide +kernel
theorem dX11_replay_112 : decode cX11_replay 112 = .ok (.istore 8, 2) := by decide +kernel
theorem dX11_replay_114 : decode cX11_replay 114 = .ok (.iload 6, 2) := by decide +kernel
theorem dX11_replay_116 : decode cX11_replay 116 = .ok (.iconst 2, 1) := by decide +kernel
theorem dX11_replay_117 : decode cX11_replay 117 = .ok (.ishr, 1) := by decide +kernel
theorem dX11_replay_118 : decode cX11_replay 118 = .ok (.bipush 63, 2) := by decide +kernel
theorem dX11_replay_120 : decode cX11_replay 120 = .ok (.iand, 1) := by decide +kernel
theorem dX11_replay_121 : decode cX11_replay 121 = .ok (.istore 9, 2) := by decide +kernel
theorem dX11_replay_123 : decode cX11_replay 123 = .ok (.iload 7, 2) := by decide +kernel
theorem dX11_replay_125 : decode cX11_replay 125 = .ok (.iconst 3, 1) := by decide +kernel
theorem dX11_replay_126 : decode cX11_replay 126 = .ok (.if_icmp .ge 20, 3) := by decide +kernel
theorem dX11_replay_129 : decode cX11_replay 129 = .ok (.aload_n 0, 1) := by decide +kernel
theorem dX11_replay_130 : decode cX11_replay 130 = .ok (.iload 7, 2) := by decide +kernel
theorem dX11_replay_132 : decode cX11_replay 132 = .ok (.iload 8, 2) := by decide +kernel
theorem dX11_replay_134 : decode cX11_replay 134 = .ok (.iload 9, 2) := by decide +kernel
theorem dX11_replay_136 : decode cX11_replay 136 = .ok (.iload 6, 2) := by decide +kernel
theorem dX11_replay_138 : decode cX11_replay 138 = .ok (.iconst 3, 1) := by decide +kernel
theorem dX11_replay_139 : decode cX11_replay 139 = .ok (.iand, 1) := by decide +kernel
theorem dX11_replay_140 : decode cX11_replay 140 = .ok (.invokevirtual 273, 3) := by decide +kernel
theorem dX11_replay_143 : decode cX11_replay 143 = .ok (.goto 94, 3) := by decide +kernel
theorem dX11_replay_146 : decode cX11_replay 146 = .ok (.iload 7, 2) := by decide +kernel
theorem dX11_replay_148 : decode cX11_replay 148 = .ok (.iconst 5, 1) := by decide +kernel
theorem dX11_replay_149 : decode cX11_replay 149 = .ok (.if_icmp .ge 35, 3) := by decide +kernel
theorem dX11_replay_152 : decode cX11_replay 152 = .ok (.aload_n 0, 1) := by decide +kernel
theorem dX11_replay_153 : decode cX11_replay 153 = .ok (.getfield 34, 3) := by decide +kernel
theorem dX11_replay_156 : decode cX11_replay 156 = .ok (.invokevirtual 90, 3) := by decide +kernel
theorem dX11_replay_159 : decode cX11_replay 159 = .ok (.ifCond .eq 25, 3) := by decide +kernel
theorem dX11_replay_162 : decode cX11_replay 162 = .ok (.aload_n 0, 1) := by decide +kernel
theorem dX11_replay_163 : decode cX11_replay 163 = .ok (.aload_n 0, 1) := by decide +kernel
theorem dX11_replay_164 : decode cX11_replay 164 = .ok (.getfield 34, 3) := by decide +kernel
theorem dX11_replay_167 : decode cX11_replay 167 = .ok (.aload_n 0, 1) := by decide +kernel
theorem dX11_replay_168 : decode cX11_replay 168 = .ok (.getfield 47, 3) := by decide +kernel
theorem dX11_replay_171 : decode cX11_replay 171 = .ok (.iload 7, 2) := by decide +kernel
theorem dX11_replay_173 : decode cX11_replay 173 = .ok (.iload 8, 2) := by decide +kernel
theorem dX11_replay_175 : decode cX11_replay 175 = .ok (.iload 9, 2) := by decide +kernel
theorem dX11_replay_177 : decode cX11_replay 177 = .ok (.invokevirtual 190, 3) := by decide +kernel
theorem dX11_replay_180 : decode cX11_replay 180 = .ok (.pop, 1) := by decide +kernel
theorem dX11_replay_181 : decode cX11_replay 181 = .ok (.goto 56, 3) := by decide +kernel
theorem dX11_replay_184 : decode cX11_replay 184 = .ok (.iload 7, 2) := by decide +kernel
theorem dX11_replay_186 : decode cX11_replay 186 = .ok (.iconst 5, 1) := by decide +kernel
theorem dX11_replay_187 : decode cX11_replay 187 = .ok (.if_icmp .ne 50, 3) := by decide +kernel
theorem dX11_replay_190 : decode cX11_replay 190 = .ok (.aload_n 0, 1) := by decide +kernel
theorem dX11_replay_191 : decode cX11_replay 191 = .ok (.getfield 34, 3) := by decide +kernel
theorem dX11_replay_194 : decode cX11_replay 194 = .ok (.invokevirtual 237, 3) := by decide +kernel
theorem dX11_replay_197 : decode cX11_replay 197 = .ok (.ifCond .eq 40, 3) := by decide +kernel
theorem dX11_replay_200 : decode cX11_replay 200 = .ok (.aload_n 0, 1) := by decide +kernel
theorem dX11_replay_201 : decode cX11_replay 201 = .ok (.getfield 53, 3) := by decide +kernel
theorem dX11_replay_204 : decode cX11_replay 204 = .ok (.aload_n 0, 1) := by decide +kernel
theorem dX11_replay_205 : decode cX11_replay 205 = .ok (.getfield 34, 3) := by decide +kernel
theorem dX11_replay_208 : decode cX11_replay 208 = .ok (.iload 8, 2) := by decide +kernel
theorem dX11_replay_210 : decode cX11_replay 210 = .ok (.iconst 1, 1) := by decide +kernel
theorem dX11_replay_211 : decode cX11_replay 211 = .ok (.iand, 1) := by decide +kernel
theorem dX11_replay_212 : decode cX11_replay 212 = .ok (.invokevirtual 240, 3) := by decide +kernel
theorem dX11_replay_215 : decode cX11_replay 215 = .ok (.iload 9, 2) := by decide +kernel
theorem dX11_replay_217 : decode cX11_replay 217 = .ok (.if_icmp .lt 20, 3) := by decide +kernel
theorem dX11_replay_220 : decode cX11_replay 220 = .ok (.aload_n 0, 1) := by decide +kernel
theorem dX11_replay_221 : decode cX11_replay 221 = .ok (.getfield 34, 3) := by decide +kernel
theorem dX11_replay_224 : decode cX11_replay 224 = .ok (.aload_n 0, 1) := by decide +kernel
theorem dX11_replay_225 : decode cX11_replay 225 = .ok (.getfield 47, 3) := by decide +kernel
theorem dX11_replay_228 : decode cX11_replay 228 = .ok (.iload 8, 2) := by decide +kernel
theorem dX11_replay_230 : decode cX11_replay 230 = .ok (.iconst 1, 1) := by decide +kernel
theorem dX11_replay_231 : decode cX11_replay 231 = .ok (.iand, 1) := by decide +kernel
theorem dX11_replay_232 : decode cX11_replay 232 = .ok (.iload 9, 2) := by decide +kernel
theorem dX11_replay_234 : decode cX11_replay 234 = .ok (.invokevirtual 257, 3) := by decide +kernel
theorem dX11_replay_237 : decode cX11_replay 237 = .ok (.iinc 5 1, 3) := by decide +kernel
theorem dX11_replay_240 : decode cX11_replay 240 = .ok (.goto (-163), 3) := by decide +kernel
theorem dX11_replay_243 : decode cX11_replay 243 = .ok (.aload_n 0, 1) := by decide +kernel
theorem dX11_replay_244 : decode cX11_replay 244 = .ok (.getfield 34, 3) := by decide +kernel
theorem dX11_replay_247 : decode cX11_replay 247 = .ok (.aload_n 2, 1) := by decide +kernel
theorem dX11_replay_248 : decode cX11_replay 248 = .ok (.invokevirtual 277, 3) := by decide +kernel
theorem dX11_replay_251 : decode cX11_replay 251 = .ok (.ifCond .eq 7, 3) := by decide +kernel
theorem dX11_replay_254 : decode cX11_replay 254 = .ok (.iconst 1, 1) := by decide +kernel
theorem dX11_replay_255 : decode cX11_replay 255 = .ok (.goto 4, 3) := by decide +kernel
theorem dX11_replay_258 : decode cX11_replay 258 = .ok (.iconst 0, 1) := by decide +kernel
theorem dX11_replay_259 : decode cX11_replay 259 = .ok (.ireturn, 1) := by decide +kernel
theorem dX11_digest_0 : decode cX11_digest 0 = .ok (.aload_n 0, 1) := by decide +kernel
theorem dX11_digest_1 : decode cX11_digest 1 = .ok (.iload_n 1, 1) := by decide +kernel
theorem dX11_digest_2 : decode cX11_digest 2 = .ok (.invokevirtual 83, 3) := by decide +kernel
theorem dX11_digest_5 : decode cX11_digest 5 = .ok (.astore_n 2, 1) := by decide +kernel
theorem dX11_digest_6 : decode cX11_digest 6 = .ok (.aload_n 2, 1) := by decide +kernel
theorem dX11_digest_7 : decode cX11_digest 7 = .ok (.ifnonnull 6, 3) := by decide +kernel
theorem dX11_digest_10 : decode cX11_digest 10 = .ok (.bipush (-2), 2) := by decide +kernel
theorem dX11_digest_12 : decode cX11_digest 12 = .ok (.ireturn, 1) := by decide +kernel
theorem dX11_digest_13 : decode cX11_digest 13 = .ok (.bipush 17, 2) := by decide +kernel
theorem dX11_digest_15 : decode cX11_digest 15 = .ok (.istore_n 3, 1) := by decide +kernel
theorem dX11_digest_16 : decode cX11_digest 16 = .ok (.iconst 0, 1) := by decide +kernel
theorem dX11_digest_17 : decode cX11_digest 17 = .ok (.istore 4, 2) := by decide +kernel
theorem dX11_digest_19 : decode cX11_digest 19 = .ok (.iload 4, 2) := by decide +kernel
theorem dX11_digest_21 : decode cX11_digest 21 = .ok (.iconst 4, 1) := by decide +kernel
theorem dX11_digest_22 : decode cX11_digest 22 = .ok (.if_icmp .ge 20, 3) := by decide +kernel
theorem dX11_digest_25 : decode cX11_digest 25 = .ok (.aload_n 2, 1) := by decide +kernel
theorem dX11_digest_26 : decode cX11_digest 26 = .ok (.iload 4, 2) := by decide +kernel
theorem dX11_digest_28 : decode cX11_digest 28 = .ok (.invokevirtual 208, 3) := by decide +kernel
theorem dX11_digest_31 : decode cX11_digest 31 = .ok (.iload_n 3, 1) := by decide +kernel
theorem dX11_digest_32 : decode cX11_digest 32 = .ok (.invokevirtual 281, 3) := by decide +kernel
theorem dX11_digest_35 : decode cX11_digest 35 = .ok (.istore_n 3, 1) := by decide +kernel
theorem dX11_digest_36 : decode cX11_digest 36 = .ok (.iinc 4 1, 3) := by decide +kernel
theorem dX11_digest_39 : decode cX11_digest 39 = .ok (.goto (-20), 3) := by decide +kernel
theorem dX11_digest_42 : decode cX11_digest 42 = .ok (.aload_n 2, 1) := by decide +kernel
theorem dX11_digest_43 : decode cX11_digest 43 = .ok (.getfield 201, 3) := by decide +kernel
theorem dX11_digest_46 : decode cX11_digest 46 = .ok (.iload_n 3, 1) := by decide +kernel
theorem dX11_digest_47 : decode cX11_digest 47 = .ok (.invokevirtual 281, 3) := by decide +kernel
theorem dX11_digest_50 : decode cX11_digest 50 = .ok (.istore_n 3, 1) := by decide +kernel
theorem dX11_digest_51 : decode cX11_digest 51 = .ok (.iconst 0, 1) := by decide +kernel
theorem dX11_digest_52 : decode cX11_digest 52 = .ok (.istore 4, 2) := by decide +kernel
theorem dX11_digest_54 : decode cX11_digest 54 = .ok (.iload 4, 2) := by decide +kernel
theorem dX11_digest_56 : decode cX11_digest 56 = .ok (.iconst 2, 1) := by decide +kernel
theorem dX11_digest_57 : decode cX11_digest 57 = .ok (.if_icmp .ge 39, 3) := by decide +kernel
theorem dX11_digest_60 : decode cX11_digest 60 = .ok (.bipush 31, 2) := by decide +kernel
theorem dX11_digest_62 : decode cX11_digest 62 = .ok (.bipush 31, 2) := by decide +kernel
theorem dX11_digest_64 : decode cX11_digest 64 = .ok (.iload_n 3, 1) := by decide +kernel
theorem dX11_digest_65 : decode cX11_digest 65 = .ok (.imul, 1) := by decide +kernel
theorem dX11_digest_66 : decode cX11_digest 66 = .ok (.aload_n 2, 1) := by decide +kernel
theorem dX11_digest_67 : decode cX11_digest 67 = .ok (.getfield 135, 3) := by decide +kernel
theorem dX11_digest_70 : decode cX11_digest 70 = .ok (.getfield 224, 3) := by decide +kernel
theorem dX11_digest_73 : decode cX11_digest 73 = .ok (.iload 4, 2) := by decide +kernel
theorem dX11_digest_75 : decode cX11_digest 75 = .ok (.iaload, 1) := by decide +kernel
theorem dX11_digest_76 : decode cX11_digest 76 = .ok (.iadd, 1) := by decide +kernel
theorem dX11_digest_77 : decode cX11_digest 77 = .ok (.imul, 1) := by decide +kernel
theorem dX11_digest_78 : decode cX11_digest 78 = .ok (.aload_n 2, 1) := by decide +kernel
theorem dX11_digest_79 : decode cX11_digest 79 = .ok (.getfield 135, 3) := by decide +kernel
theorem dX11_digest_82 : decode cX11_digest 82 = .ok (.getfield 227, 3) := by decide +kernel
theorem dX11_digest_85 : decode cX11_digest 85 = .ok (.iload 4, 2) := by decide +kernel
theorem dX11_digest_87 : decode cX11_digest 87 = .ok (.iaload, 1) := by decide +kernel
theorem dX11_digest_88 : decode cX11_digest 88 = .ok (.iadd, 1) := by decide +kernel
theorem dX11_digest_89 : decode cX11_digest 89 = .ok (.istore_n 3, 1) := by decide +kernel
theorem dX11_digest_90 : decode cX11_digest 90 = .ok (.iinc 4 1, 3) := by decide +kernel
theorem dX11_digest_93 : decode cX11_digest 93 = .ok (.goto (-39), 3) := by decide +kernel
theorem dX11_digest_96 : decode cX11_digest 96 = .ok (.iconst 0, 1) := by decide +kernel
theorem dX11_digest_97 : decode cX11_digest 97 = .ok (.istore 4, 2) := by decide +kernel
theorem dX11_digest_99 : decode cX11_digest 99 = .ok (.iload 4, 2) := by decide +kernel
theorem dX11_digest_101 : decode cX11_digest 101 = .ok (.iconst 4, 1) := by decide +kernel
theorem dX11_digest_102 : decode cX11_digest 102 = .ok (.if_icmp .ge 22, 3) := by decide +kernel
theorem dX11_digest_105 : decode cX11_digest 105 = .ok (.bipush 31, 2) := by decide +kernel
theorem dX11_digest_107 : decode cX11_digest 107 = .ok (.iload_n 3, 1) := by decide +kernel
theorem dX11_digest_108 : decode cX11_digest 108 = .ok (.imul, 1) := by decide +kernel
theorem dX11_digest_109 : decode cX11_digest 109 = .ok (.aload_n 2, 1) := by decide +kernel
theorem dX11_digest_110 : decode cX11_digest 110 = .ok (.getfield 122, 3) := by decide +kernel
theorem dX11_digest_113 : decode cX11_digest 113 = .ok (.iload 4, 2) := by decide +kernel
theorem dX11_digest_115 : decode cX11_digest 115 = .ok (.iaload, 1) := by decide +kernel
theorem dX11_digest_116 : decode cX11_digest 116 = .ok (.iadd, 1) := by decide +kernel
theorem dX11_digest_117 : decode cX11_digest 117 = .ok (.istore_n 3, 1) := by decide +kernel
theorem dX11_digest_118 : decode cX11_digest 118 = .ok (.iinc 4 1, 3) := by decide +kernel
theorem dX11_digest_121 : decode cX11_digest 121 = .ok (.goto (-22), 3) := by decide +kernel
theorem dX11_digest_124 : decode cX11_digest 124 = .ok (.bipush 31, 2) := by decide +kernel
theorem dX11_digest_126 : decode cX11_digest 126 = .ok (.iload_n 3, 1) := by decide +kernel
theorem dX11_digest_127 : decode cX11_digest 127 = .ok (.imul, 1) := by decide +kernel
theorem dX11_digest_128 : decode cX11_digest 128 = .ok (.aload_n 2, 1) := by decide +kernel
theorem dX11_digest_129 : decode cX11_digest 129 = .ok (.getfield 135, 3) := by decide +kernel
theorem dX11_digest_132 : decode cX11_digest 132 = .ok (.getfield 139, 3) := by decide +kernel
theorem dX11_digest_135 : decode cX11_digest 135 = .ok (.iadd, 1) := by decide +kernel
theorem dX11_digest_136 : decode cX11_digest 136 = .ok (.ireturn, 1) := by decide +kernel
theorem dX11_finding_0 : decode cX11_finding 0 = .ok (.iload_n 2, 1) := by decide +kernel
theorem dX11_finding_1 : decode cX11_finding 1 = .ok (.ifCond .lt 8, 3) := by decide +kernel
theorem dX11_finding_4 : decode cX11_finding 4 = .ok (.iload_n 2, 1) := by decide +kernel
theorem dX11_finding_5 : decode cX11_finding 5 = .ok (.iconst 5, 1) := by decide +kernel
theorem dX11_finding_6 : decode cX11_finding 6 = .ok (.if_icmp .lt 6, 3) := by decide +kernel
theorem dX11_finding_9 : decode cX11_finding 9 = .ok (.bipush (-3), 2) := by decide +kernel
theorem dX11_finding_11 : decode cX11_finding 11 = .ok (.ireturn, 1) := by decide +kernel
theorem dX11_finding_12 : decode cX11_finding 12 = .ok (.aload_n 0, 1) := by decide +kernel
theorem dX11_finding_13 : decode cX11_finding 13 = .ok (.getfield 43, 3) := by decide +kernel
theorem dX11_finding_16 : decode cX11_finding 16 = .ok (.iload_n 1, 1) := by decide +kernel
theorem dX11_finding_17 : decode cX11_finding 17 = .ok (.iload_n 2, 1) := by decide +kernel
theorem dX11_finding_18 : decode cX11_finding 18 = .ok (.invokevirtual 284, 3) := by decide +kernel
theorem dX11_finding_21 : decode cX11_finding 21 = .ok (.ireturn, 1) := by decide +kernel
theorem dX11_trace_0 : decode cX11_trace 0 = .ok (.aload_n 0, 1) := by decide +kernel
theorem dX11_trace_1 : decode cX11_trace 1 = .ok (.getfield 43, 3) := by decide +kernel
theorem dX11_trace_4 : decode cX11_trace 4 = .ok (.iload_n 1, 1) := by decide +kernel
theorem dX11_trace_5 : decode cX11_trace 5 = .ok (.invokevirtual 287, 3) := by decide +kernel
theorem dX11_trace_8 : decode cX11_trace 8 = .ok (.ireturn, 1) := by decide +kernel
theorem dX11_forget_0 : decode cX11_forget 0 = .ok (.aload_n 0, 1) := by decide +kernel
theorem dX11_forget_1 : decode cX11_forget 1 = .ok (.getfield 43, 3) := by decide +kernel
theorem dX11_forget_4 : decode cX11_forget 4 = .ok (.getfield 290, 3) := by decide +kernel
theorem dX11_forget_7 : decode cX11_forget 7 = .ok (.istore_n 1, 1) := by decide +kernel
theorem dX11_forget_8 : decode cX11_forget 8 = .ok (.aload_n 0, 1) := by decide +kernel
theorem dX11_forget_9 : decode cX11_forget 9 = .ok (.getfield 43, 3) := by decide +kernel
theorem dX11_forget_12 : decode cX11_forget 12 = .ok (.iconst 0, 1) := by decide +kernel
theorem dX11_forget_13 : decode cX11_forget 13 = .ok (.putfield 290, 3) := by decide +kernel
theorem dX11_forget_16 : decode cX11_forget 16 = .ok (.iload_n 1, 1) := by decide +kernel
theorem dX11_forget_17 : decode cX11_forget 17 = .ok (.ireturn, 1) := by decide +kernel
theorem dX11_count_0 : decode cX11_count 0 = .ok (.iload_n 1, 1) := by decide +kernel
theorem dX11_count_1 : decode cX11_count 1 = .ok (.tableswitch 69 0 4 #[35, 43, 51, 59, 64], 35) := by decide +kernel
theorem dX11_count_36 : decode cX11_count 36 = .ok (.aload_n 0, 1) := by decide +kernel
theorem dX11_count_37 : decode cX11_count 37 = .ok (.getfield 43, 3) := by decide +kernel
theorem dX11_count_40 : decode cX11_count 40 = .ok (.getfield 293, 3) := by decide +kernel
theorem dX11_count_43 : decode cX11_count 43 = .ok (.ireturn, 1) := by decide +kernel
theorem dX11_count_44 : decode cX11_count 44 = .ok (.aload_n 0, 1) := by decide +kernel
theorem dX11_count_45 : decode cX11_count 45 = .ok (.getfield 43, 3) := by decide +kernel
theorem dX11_count_48 : decode cX11_count 48 = .ok (.getfield 296, 3) := by decide +kernel
theorem dX11_count_51 : decode cX11_count 51 = .ok (.ireturn, 1) := by decide +kernel
theorem dX11_count_52 : decode cX11_count 52 = .ok (.aload_n 0, 1) := by decide +kernel
theorem dX11_count_53 : decode cX11_count 53 = .ok (.getfield 43, 3) := by decide +kernel
theorem dX11_count_56 : decode cX11_count 56 = .ok (.getfield 148, 3) := by decide +kernel
theorem dX11_count_59 : decode cX11_count 59 = .ok (.ireturn, 1) := by decide +kernel
theorem dX11_count_60 : decode cX11_count 60 = .ok (.aload_n 0, 1) := by decide +kernel
theorem dX11_count_61 : decode cX11_count 61 = .ok (.invokevirtual 299, 3) := by decide +kernel
theorem dX11_count_64 : decode cX11_count 64 = .ok (.ireturn, 1) := by decide +kernel
theorem dX11_count_65 : decode cX11_count 65 = .ok (.aload_n 0, 1) := by decide +kernel
theorem dX11_count_66 : decode cX11_count 66 = .ok (.invokevirtual 303, 3) := by decide +kernel
theorem dX11_count_69 : decode cX11_count 69 = .ok (.ireturn, 1) := by decide +kernel
theorem dX11_count_70 : decode cX11_count 70 = .ok (.bipush (-3), 2) := by decide +kernel
theorem dX11_count_72 : decode cX11_count 72 = .ok (.ireturn, 1) := by decide +kernel
theorem dX11_status_0 : decode cX11_status 0 = .ok (.aload_n 0, 1) := by decide +kernel
theorem dX11_status_1 : decode cX11_status 1 = .ok (.iload_n 1, 1) := by decide +kernel
theorem dX11_status_2 : decode cX11_status 2 = .ok (.invokevirtual 83, 3) := by decide +kernel
theorem dX11_status_5 : decode cX11_status 5 = .ok (.astore_n 3, 1) := by decide +kernel
theorem dX11_status_6 : decode cX11_status 6 = .ok (.aload_n 3, 1) := by decide +kernel
theorem dX11_status_7 : decode cX11_status 7 = .ok (.ifnonnull 6, 3) := by decide +kernel
theorem dX11_status_10 : decode cX11_status 10 = .ok (.bipush (-2), 2) := by decide +kernel
theorem dX11_status_12 : decode cX11_status 12 = .ok (.ireturn, 1) := by decide +kernel
theorem dX11_status_13 : decode cX11_status 13 = .ok (.aload_n 3, 1) := by decide +kernel
theorem dX11_status_14 : decode cX11_status 14 = .ok (.getfield 135, 3) := by decide +kernel
theorem dX11_status_17 : decode cX11_status 17 = .ok (.astore 4, 2) := by decide +kernel
theorem dX11_status_19 : decode cX11_status 19 = .ok (.iload_n 2, 1) := by decide +kernel
theorem dX11_status_20 : decode cX11_status 20 = .ok (.tableswitch 116 0 8 #[52, 58, 64, 69, 85, 91, 97, 103, 109], 52) := by decide +kernel
theorem dX11_status_72 : decode cX11_status 72 = .ok (.aload 4, 2) := by decide +kernel
theorem dX11_status_74 : decode cX11_status 74 = .ok (.getfield 264, 3) := by decide +kernel
theorem dX11_status_77 : decode cX11_status 77 = .ok (.ireturn, 1) := by decide +kernel
theorem dX11_status_78 : decode cX11_status 78 = .ok (.aload 4, 2) := by decide +kernel
theorem dX11_status_80 : decode cX11_status 80 = .ok (.getfield 155, 3) := by decide +kernel
theorem dX11_status_83 : decode cX11_status 83 = .ok (.ireturn, 1) := by decide +kernel
theorem dX11_status_84 : decode cX11_status 84 = .ok (.aload_n 3, 1) := by decide +kernel
theorem dX11_status_85 : decode cX11_status 85 = .ok (.getfield 116, 3) := by decide +kernel
theorem dX11_status_88 : decode cX11_status 88 = .ok (.ireturn, 1) := by decide +kernel
theorem dX11_status_89 : decode cX11_status 89 = .ok (.aload 4, 2) := by decide +kernel
theorem dX11_status_91 : decode cX11_status 91 = .ok (.getfield 224, 3) := by decide +kernel
theorem dX11_status_94 : decode cX11_status 94 = .ok (.iconst 0, 1) := by decide +kernel
theorem dX11_status_95 : decode cX11_status 95 = .ok (.iaload, 1) := by decide +kernel
theorem dX11_status_96 : decode cX11_status 96 = .ok (.aload 4, 2) := by decide +kernel
theorem dX11_status_98 : decode cX11_status 98 = .ok (.getfield 224, 3) := by decide +kernel
theorem dX11_status_101 : decode cX11_status 101 = .ok (.iconst 1, 1) := by decide +kernel
theorem dX11_status_102 : decode cX11_status 102 = .ok (.iaload, 1) := by decide +kernel
theorem dX11_status_103 : decode cX11_status 103 = .ok (.iadd, 1) := by decide +kernel
theorem dX11_status_104 : decode cX11_status 104 = .ok (.ireturn, 1) := by decide +kernel
theorem dX11_status_105 : decode cX11_status 105 = .ok (.aload 4, 2) := by decide +kernel
theorem dX11_status_107 : decode cX11_status 107 = .ok (.getfield 306, 3) := by decide +kernel
theorem dX11_status_110 : decode cX11_status 110 = .ok (.ireturn, 1) := by decide +kernel
theorem dX11_status_111 : decode cX11_status 111 = .ok (.aload 4, 2) := by decide +kernel
theorem dX11_status_113 : decode cX11_status 113 = .ok (.getfield 309, 3) := by decide +kernel
theorem dX11_status_116 : decode cX11_status 116 = .ok (.ireturn, 1) := by decide +kernel
theorem dX11_status_117 : decode cX11_status 117 = .ok (.aload 4, 2) := by decide +kernel
theorem dX11_status_119 : decode cX11_status 119 = .ok (.getfield 312, 3) := by decide +kernel
theorem dX11_status_122 : decode cX11_status 122 = .ok (.ireturn, 1) := by decide +kernel
theorem dX11_status_123 : decode cX11_status 123 = .ok (.aload 4, 2) := by decide +kernel
theorem dX11_status_125 : decode cX11_status 125 = .ok (.getfield 187, 3) := by decide +kernel
theorem dX11_status_128 : decode cX11_status 128 = .ok (.ireturn, 1) := by decide +kernel
theorem dX11_status_129 : decode cX11_status 129 = .ok (.aload_n 0, 1) := by decide +kernel
theorem dX11_status_130 : decode cX11_status 130 = .ok (.getfield 31, 3) := by decide +kernel
theorem dX11_status_133 : decode cX11_status 133 = .ok (.iload_n 1, 1) := by decide +kernel
theorem dX11_status_134 : decode cX11_status 134 = .ok (.iaload, 1) := by decide +kernel
theorem dX11_status_135 : decode cX11_status 135 = .ok (.ireturn, 1) := by decide +kernel
theorem dX11_status_136 : decode cX11_status 136 = .ok (.bipush (-3), 2) := by decide +kernel
theorem dX11_status_138 : decode cX11_status 138 = .ok (.ireturn, 1) := by decide +kernel
theorem dX11_isGame_0 : decode cX11_isGame 0 = .ok (.iload_n 0, 1) := by decide +kernel
theorem dX11_isGame_1 : decode cX11_isGame 1 = .ok (.ifCond .lt 13, 3) := by decide +kernel
theorem dX11_isGame_4 : decode cX11_isGame 4 = .ok (.iload_n 0, 1) := by decide +kernel
theorem dX11_isGame_5 : decode cX11_isGame 5 = .ok (.bipush 6, 2) := by decide +kernel
theorem dX11_isGame_7 : decode cX11_isGame 7 = .ok (.if_icmp .ge 7, 3) := by decide +kernel
theorem dX11_isGame_10 : decode cX11_isGame 10 = .ok (.iconst 1, 1) := by decide +kernel
theorem dX11_isGame_11 : decode cX11_isGame 11 = .ok (.goto 4, 3) := by decide +kernel
theorem dX11_isGame_14 : decode cX11_isGame 14 = .ok (.iconst 0, 1) := by decide +kernel
theorem dX11_isGame_15 : decode cX11_isGame 15 = .ok (.ireturn, 1) := by decide +kernel
theorem dX11_isSeat_0 : decode cX11_isSeat 0 = .ok (.iload_n 0, 1) := by decide +kernel
theorem dX11_isSeat_1 : decode cX11_isSeat 1 = .ok (.ifCond .lt 12, 3) := by decide +kernel
theorem dX11_isSeat_4 : decode cX11_isSeat 4 = .ok (.iload_n 0, 1) := by decide +kernel
theorem dX11_isSeat_5 : decode cX11_isSeat 5 = .ok (.iconst 4, 1) := by decide +kernel
theorem dX11_isSeat_6 : decode cX11_isSeat 6 = .ok (.if_icmp .ge 7, 3) := by decide +kernel
theorem dX11_isSeat_9 : decode cX11_isSeat 9 = .ok (.iconst 1, 1) := by decide +kernel
theorem dX11_isSeat_10 : decode cX11_isSeat 10 = .ok (.goto 4, 3) := by decide +kernel
theorem dX11_isSeat_13 : decode cX11_isSeat 13 = .ok (.iconst 0, 1) := by decide +kernel
theorem dX11_isSeat_14 : decode cX11_isSeat 14 = .ok (.ireturn, 1) := by decide +kernel
theorem dX11_isSide_0 : decode cX11_isSide 0 = .ok (.iload_n 0, 1) := by decide +kernel
theorem dX11_isSide_1 : decode cX11_isSide 1 = .ok (.ifCond .eq 8, 3) := by decide +kernel
theorem dX11_isSide_4 : decode cX11_isSide 4 = .ok (.iload_n 0, 1) := by decide +kernel
theorem dX11_isSide_5 : decode cX11_isSide 5 = .ok (.iconst 1, 1) := by decide +kernel
theorem dX11_isSide_6 : decode cX11_isSide 6 = .ok (.if_icmp .ne 7, 3) := by decide +kernel
theorem dX11_isSide_9 : decode cX11_isSide 9 = .ok (.iconst 1, 1) := by decide +kernel
theorem dX11_isSide_10 : decode cX11_isSide 10 = .ok (.goto 4, 3) := by decide +kernel
theorem dX11_isSide_13 : decode cX11_isSide 13 = .ok (.iconst 0, 1) := by decide +kernel
theorem dX11_isSide_14 : decode cX11_isSide 14 = .ok (.ireturn, 1) := by decide +kernel
theorem dX11_packed_0 : decode cX11_packed 0 = .ok (.iload_n 0, 1) := by decide +kernel
theorem dX11_packed_1 : decode cX11_packed 1 = .ok (.bipush 10, 2) := by decide +kernel
theorem dX11_packed_3 : decode cX11_packed 3 = .ok (.ishl, 1) := by decide +kernel
theorem dX11_packed_4 : decode cX11_packed 4 = .ok (.iload_n 1, 1) := by decide +kernel
theorem dX11_packed_5 : decode cX11_packed 5 = .ok (.bipush 8, 2) := by decide +kernel
theorem dX11_packed_7 : decode cX11_packed 7 = .ok (.ishl, 1) := by decide +kernel
theorem dX11_packed_8 : decode cX11_packed 8 = .ok (.ior, 1) := by decide +kernel
theorem dX11_packed_9 : decode cX11_packed 9 = .ok (.iload_n 2, 1) := by decide +kernel
theorem dX11_packed_10 : decode cX11_packed 10 = .ok (.iconst 2, 1) := by decide +kernel
theorem dX11_packed_11 : decode cX11_packed 11 = .ok (.ishl, 1) := by decide +kernel
theorem dX11_packed_12 : decode cX11_packed 12 = .ok (.ior, 1) := by decide +kernel
theorem dX11_packed_13 : decode cX11_packed 13 = .ok (.iload_n 3, 1) := by decide +kernel
theorem dX11_packed_14 : decode cX11_packed 14 = .ok (.ior, 1) := by decide +kernel
theorem dX11_packed_15 : decode cX11_packed 15 = .ok (.ireturn, 1) := by decide +kernel
theorem dX11_copy_0 : decode cX11_copy 0 = .ok (.aload_n 0, 1) := by decide +kernel
theorem dX11_copy_1 : decode cX11_copy 1 = .ok (.iconst 0, 1) := by decide +kernel
theorem dX11_copy_2 : decode cX11_copy 2 = .ok (.aload_n 1, 1) := by decide +kernel
theorem dX11_copy_3 : decode cX11_copy 3 = .ok (.iconst 0, 1) := by decide +kernel
theorem dX11_copy_4 : decode cX11_copy 4 = .ok (.aload_n 0, 1) := by decide +kernel
theorem dX11_copy_5 : decode cX11_copy 5 = .ok (.arraylength, 1) := by decide +kernel
theorem dX11_copy_6 : decode cX11_copy 6 = .ok (.aload_n 1, 1) := by decide +kernel
theorem dX11_copy_7 : decode cX11_copy 7 = .ok (.arraylength, 1) := by decide +kernel
theorem dX11_copy_8 : decode cX11_copy 8 = .ok (.invokestatic 315, 3) := by decide +kernel
theorem dX11_copy_11 : decode cX11_copy 11 = .ok (.invokestatic 318, 3) := by decide +kernel
theorem dX11_copy_14 : decode cX11_copy 14 = .ok (.return_, 1) := by decide +kernel
theorem dX11_newGame_0 : decode cX11_newGame 0 = .ok (.iload_n 0, 1) := by decide +kernel
theorem dX11_newGame_1 : decode cX11_newGame 1 = .ok (.tableswitch 52 1 3 #[27, 36, 44], 27) := by decide +kernel
theorem dX11_newGame_28 : decode cX11_newGame 28 = .ok (.new 324, 3) := by decide +kernel
theorem dX11_newGame_31 : decode cX11_newGame 31 = .ok (.dup, 1) := by decide +kernel
theorem dX11_newGame_32 : decode cX11_newGame 32 = .ok (.iconst 1, 1) := by decide +kernel
theorem dX11_newGame_33 : decode cX11_newGame 33 = .ok (.invokespecial 326, 3) := by decide +kernel
theorem dX11_newGame_36 : decode cX11_newGame 36 = .ok (.areturn, 1) := by decide +kernel
theorem dX11_newGame_37 : decode cX11_newGame 37 = .ok (.new 327, 3) := by decide +kernel
theorem dX11_newGame_40 : decode cX11_newGame 40 = .ok (.dup, 1) := by decide +kernel
theorem dX11_newGame_41 : decode cX11_newGame 41 = .ok (.invokespecial 329, 3) := by decide +kernel
theorem dX11_newGame_44 : decode cX11_newGame 44 = .ok (.areturn, 1) := by decide +kernel
theorem dX11_newGame_45 : decode cX11_newGame 45 = .ok (.new 330, 3) := by decide +kernel
theorem dX11_newGame_48 : decode cX11_newGame 48 = .ok (.dup, 1) := by decide +kernel
theorem dX11_newGame_49 : decode cX11_newGame 49 = .ok (.invokespecial 332, 3) := by decide +kernel
theorem dX11_newGame_52 : decode cX11_newGame 52 = .ok (.areturn, 1) := by decide +kernel
theorem dX11_newGame_53 : decode cX11_newGame 53 = .ok (.new 68, 3) := by decide +kernel
theorem dX11_newGame_56 : decode cX11_newGame 56 = .ok (.dup, 1) := by decide +kernel
theorem dX11_newGame_57 : decode cX11_newGame 57 = .ok (.iconst 0, 1) := by decide +kernel
theorem dX11_newGame_58 : decode cX11_newGame 58 = .ok (.invokespecial 333, 3) := by decide +kernel
theorem dX11_newGame_61 : decode cX11_newGame 61 = .ok (.areturn, 1) := by decide +kernel
theorem dX11_gameAt_0 : decode cX11_gameAt 0 = .ok (.iload_n 1, 1) := by decide +kernel
theorem dX11_gameAt_1 : decode cX11_gameAt 1 = .ok (.invokestatic 57, 3) := by decide +kernel
theorem dX11_gameAt_4 : decode cX11_gameAt 4 = .ok (.ifCond .eq 12, 3) := by decide +kernel
theorem dX11_gameAt_7 : decode cX11_gameAt 7 = .ok (.aload_n 0, 1) := by decide +kernel
theorem dX11_gameAt_8 : decode cX11_gameAt 8 = .ok (.getfield 11, 3) := by decide +kernel
theorem dX11_gameAt_11 : decode cX11_gameAt 11 = .ok (.iload_n 1, 1) := by decide +kernel
theorem dX11_gameAt_12 : decode cX11_gameAt 12 = .ok (.aaload, 1) := by decide +kernel
theorem dX11_gameAt_13 : decode cX11_gameAt 13 = .ok (.goto 4, 3) := by decide +kernel
theorem dX11_gameAt_16 : decode cX11_gameAt 16 = .ok (.aconst_null, 1) := by decide +kernel
theorem dX11_gameAt_17 : decode cX11_gameAt 17 = .ok (.areturn, 1) := by decide +kernel
theorem dX11_tableAt_0 : decode cX11_tableAt 0 = .ok (.iload_n 1, 1) := by decide +kernel
theorem dX11_tableAt_1 : decode cX11_tableAt 1 = .ok (.ifCond .lt 8, 3) := by decide +kernel
theorem dX11_tableAt_4 : decode cX11_tableAt 4 = .ok (.iload_n 1, 1) := by decide +kernel
theorem dX11_tableAt_5 : decode cX11_tableAt 5 = .ok (.iconst 4, 1) := by decide +kernel
theorem dX11_tableAt_6 : decode cX11_tableAt 6 = .ok (.if_icmp .lt 5, 3) := by decide +kernel
theorem dX11_tableAt_9 : decode cX11_tableAt 9 = .ok (.aconst_null, 1) := by decide +kernel
theorem dX11_tableAt_10 : decode cX11_tableAt 10 = .ok (.areturn, 1) := by decide +kernel
theorem dX11_tableAt_11 : decode cX11_tableAt 11 = .ok (.aload_n 0, 1) := by decide +kernel
theorem dX11_tableAt_12 : decode cX11_tableAt 12 = .ok (.getfield 17, 3) := by decide +kernel
theorem dX11_tableAt_15 : decode cX11_tableAt 15 = .ok (.iload_n 1, 1) := by decide +kernel
theorem dX11_tableAt_16 : decode cX11_tableAt 16 = .ok (.aaload, 1) := by decide +kernel
theorem dX11_tableAt_17 : decode cX11_tableAt 17 = .ok (.astore_n 2, 1) := by decide +kernel
theorem dX11_tableAt_18 : decode cX11_tableAt 18 = .ok (.aload_n 2, 1) := by decide +kernel
theorem dX11_tableAt_19 : decode cX11_tableAt 19 = .ok (.ifnull 10, 3) := by decide +kernel
theorem dX11_tableAt_22 : decode cX11_tableAt 22 = .ok (.aload_n 2, 1) := by decide +kernel
theorem dX11_tableAt_23 : decode cX11_tableAt 23 = .ok (.getfield 334, 3) := by decide +kernel
theorem dX11_tableAt_26 : decode cX11_tableAt 26 = .ok (.ifnonnull 7, 3) := by decide +kernel
theorem dX11_tableAt_29 : decode cX11_tableAt 29 = .ok (.aconst_null, 1) := by decide +kernel
theorem dX11_tableAt_30 : decode cX11_tableAt 30 = .ok (.goto 4, 3) := by decide +kernel
theorem dX11_tableAt_33 : decode cX11_tableAt 33 = .ok (.aload_n 2, 1) := by decide +kernel
theorem dX11_tableAt_34 : decode cX11_tableAt 34 = .ok (.areturn, 1) := by decide +kernel
theorem dX11_tablesThere_0 : decode cX11_tablesThere 0 = .ok (.iconst 0, 1) := by decide +kernel
theorem dX11_tablesThere_1 : decode cX11_tablesThere 1 = .ok (.istore_n 1, 1) := by decide +kernel
theorem dX11_tablesThere_2 : decode cX11_tablesThere 2 = .ok (.iconst 0, 1) := by decide +kernel
theorem dX11_tablesThere_3 : decode cX11_tablesThere 3 = .ok (.istore_n 2, 1) := by decide +kernel
theorem dX11_tablesThere_4 : decode cX11_tablesThere 4 = .ok (.iload_n 2, 1) := by decide +kernel
theorem dX11_tablesThere_5 : decode cX11_tablesThere 5 = .ok (.iconst 4, 1) := by decide +kernel
theorem dX11_tablesThere_6 : decode cX11_tablesThere 6 = .ok (.if_icmp .ge 25, 3) := by decide +kernel
theorem dX11_tablesThere_9 : decode cX11_tablesThere 9 = .ok (.iload_n 1, 1) := by decide +kernel
theorem dX11_tablesThere_10 : decode cX11_tablesThere 10 = .ok (.aload_n 0, 1) := by decide +kernel
theorem dX11_tablesThere_11 : decode cX11_tablesThere 11 = .ok (.iload_n 2, 1) := by decide +kernel
theorem dX11_tablesThere_12 : decode cX11_tablesThere 12 = .ok (.invokevirtual 83, 3) := by decide +kernel
theorem dX11_tablesThere_15 : decode cX11_tablesThere 15 = .ok (.ifnonnull 7, 3) := by decide +kernel
theorem dX11_tablesThere_18 : decode cX11_tablesThere 18 = .ok (.iconst 0, 1) := by decide +kernel
theorem dX11_tablesThere_19 : decode cX11_tablesThere 19 = .ok (.goto 4, 3) := by decide +kernel
theorem dX11_tablesThere_22 : decode cX11_tablesThere 22 = .ok (.iconst 1, 1) := by decide +kernel
theorem dX11_tablesThere_23 : decode cX11_tablesThere 23 = .ok (.iadd, 1) := by decide +kernel
theorem dX11_tablesThere_24 : decode cX11_tablesThere 24 = .ok (.istore_n 1, 1) := by decide +kernel
theorem dX11_tablesThere_25 : decode cX11_tablesThere 25 = .ok (.iinc 2 1, 3) := by decide +kernel
theorem dX11_tablesThere_28 : decode cX11_tablesThere 28 = .ok (.goto (-24), 3) := by decide +kernel
theorem dX11_tablesThere_31 : decode cX11_tablesThere 31 = .ok (.iload_n 1, 1) := by decide +kernel
theorem dX11_tablesThere_32 : decode cX11_tablesThere 32 = .ok (.ireturn, 1) := by decide +kernel
theorem dX11_gamesThere_0 : decode cX11_gamesThere 0 = .ok (.iconst 0, 1) := by decide +kernel
theorem dX11_gamesThere_1 : decode cX11_gamesThere 1 = .ok (.istore_n 1, 1) := by decide +kernel
theorem dX11_gamesThere_2 : decode cX11_gamesThere 2 = .ok (.iconst 0, 1) := by decide +kernel
theorem dX11_gamesThere_3 : decode cX11_gamesThere 3 = .ok (.istore_n 2, 1) := by decide +kernel
theorem dX11_gamesThere_4 : decode cX11_gamesThere 4 = .ok (.iload_n 2, 1) := by decide +kernel
theorem dX11_gamesThere_5 : decode cX11_gamesThere 5 = .ok (.bipush 6, 2) := by decide +kernel
theorem dX11_gamesThere_7 : decode cX11_gamesThere 7 = .ok (.if_icmp .ge 26, 3) := by decide +kernel
theorem dX11_gamesThere_10 : decode cX11_gamesThere 10 = .ok (.iload_n 1, 1) := by decide +kernel
theorem dX11_gamesThere_11 : decode cX11_gamesThere 11 = .ok (.aload_n 0, 1) := by decide +kernel
theorem dX11_gamesThere_12 : decode cX11_gamesThere 12 = .ok (.getfield 11, 3) := by decide +kernel
theorem dX11_gamesThere_15 : decode cX11_gamesThere 15 = .ok (.iload_n 2, 1) := by decide +kernel
theorem dX11_gamesThere_16 : decode cX11_gamesThere 16 = .ok (.aaload, 1) := by decide +kernel
theorem dX11_gamesThere_17 : decode cX11_gamesThere 17 = .ok (.ifnonnull 7, 3) := by decide +kernel
theorem dX11_gamesThere_20 : decode cX11_gamesThere 20 = .ok (.iconst 0, 1) := by decide +kernel
theorem dX11_gamesThere_21 : decode cX11_gamesThere 21 = .ok (.goto 4, 3) := by decide +kernel
theorem dX11_gamesThere_24 : decode cX11_gamesThere 24 = .ok (.iconst 1, 1) := by decide +kernel
theorem dX11_gamesThere_25 : decode cX11_gamesThere 25 = .ok (.iadd, 1) := by decide +kernel
theorem dX11_gamesThere_26 : decode cX11_gamesThere 26 = .ok (.istore_n 1, 1) := by decide +kernel
theorem dX11_gamesThere_27 : decode cX11_gamesThere 27 = .ok (.iinc 2 1, 3) := by decide +kernel
theorem dX11_gamesThere_30 : decode cX11_gamesThere 30 = .ok (.goto (-26), 3) := by decide +kernel
theorem dX11_gamesThere_33 : decode cX11_gamesThere 33 = .ok (.iload_n 1, 1) := by decide +kernel
theorem dX11_gamesThere_34 : decode cX11_gamesThere 34 = .ok (.ireturn, 1) := by decide +kernel
theorem dX11_keep_0 : decode cX11_keep 0 = .ok (.aload_n 1, 1) := by decide +kernel
theorem dX11_keep_1 : decode cX11_keep 1 = .ok (.getfield 338, 3) := by decide +kernel
theorem dX11_keep_4 : decode cX11_keep 4 = .ok (.istore_n 2, 1) := by decide +kernel
theorem dX11_keep_5 : decode cX11_keep 5 = .ok (.iload_n 2, 1) := by decide +kernel
theorem dX11_keep_6 : decode cX11_keep 6 = .ok (.ifCond .lt 8, 3) := by decide +kernel
theorem dX11_keep_9 : decode cX11_keep 9 = .ok (.iload_n 2, 1) := by decide +kernel
theorem dX11_keep_10 : decode cX11_keep 10 = .ok (.iconst 4, 1) := by decide +kernel
theorem dX11_keep_11 : decode cX11_keep 11 = .ok (.if_icmp .lt 4, 3) := by decide +kernel
theorem dX11_keep_14 : decode cX11_keep 14 = .ok (.return_, 1) := by decide +kernel
theorem dX11_keep_15 : decode cX11_keep 15 = .ok (.aload_n 0, 1) := by decide +kernel
theorem dX11_keep_16 : decode cX11_keep 16 = .ok (.getfield 21, 3) := by decide +kernel
theorem dX11_keep_19 : decode cX11_keep 19 = .ok (.iload_n 2, 1) := by decide +kernel
theorem dX11_keep_20 : decode cX11_keep 20 = .ok (.bipush 8, 2) := by decide +kernel
theorem dX11_keep_22 : decode cX11_keep 22 = .ok (.imul, 1) := by decide +kernel
theorem dX11_keep_23 : decode cX11_keep 23 = .ok (.aload_n 0, 1) := by decide +kernel
theorem dX11_keep_24 : decode cX11_keep 24 = .ok (.getfield 27, 3) := by decide +kernel
theorem dX11_keep_27 : decode cX11_keep 27 = .ok (.iload_n 2, 1) := by decide +kernel
theorem dX11_keep_28 : decode cX11_keep 28 = .ok (.iaload, 1) := by decide +kernel
theorem dX11_keep_29 : decode cX11_keep 29 = .ok (.iadd, 1) := by decide +kernel
theorem dX11_keep_30 : decode cX11_keep 30 = .ok (.aaload, 1) := by decide +kernel
theorem dX11_keep_31 : decode cX11_keep 31 = .ok (.aload_n 1, 1) := by decide +kernel
theorem dX11_keep_32 : decode cX11_keep 32 = .ok (.invokevirtual 261, 3) := by decide +kernel
theorem dX11_keep_35 : decode cX11_keep 35 = .ok (.aload_n 0, 1) := by decide +kernel
theorem dX11_keep_36 : decode cX11_keep 36 = .ok (.getfield 27, 3) := by decide +kernel
theorem dX11_keep_39 : decode cX11_keep 39 = .ok (.iload_n 2, 1) := by decide +kernel
theorem dX11_keep_40 : decode cX11_keep 40 = .ok (.aload_n 0, 1) := by decide +kernel
theorem dX11_keep_41 : decode cX11_keep 41 = .ok (.getfield 27, 3) := by decide +kernel
theorem dX11_keep_44 : decode cX11_keep 44 = .ok (.iload_n 2, 1) := by decide +kernel
theorem dX11_keep_45 : decode cX11_keep 45 = .ok (.iaload, 1) := by decide +kernel
theorem dX11_keep_46 : decode cX11_keep 46 = .ok (.iconst 1, 1) := by decide +kernel
theorem dX11_keep_47 : decode cX11_keep 47 = .ok (.iadd, 1) := by decide +kernel
theorem dX11_keep_48 : decode cX11_keep 48 = .ok (.bipush 7, 2) := by decide +kernel
theorem dX11_keep_50 : decode cX11_keep 50 = .ok (.iand, 1) := by decide +kernel
theorem dX11_keep_51 : decode cX11_keep 51 = .ok (.iastore, 1) := by decide +kernel
theorem dX11_keep_52 : decode cX11_keep 52 = .ok (.aload_n 0, 1) := by decide +kernel
theorem dX11_keep_53 : decode cX11_keep 53 = .ok (.getfield 31, 3) := by decide +kernel
theorem dX11_keep_56 : decode cX11_keep 56 = .ok (.iload_n 2, 1) := by decide +kernel
theorem dX11_keep_57 : decode cX11_keep 57 = .ok (.bipush 8, 2) := by decide +kernel
theorem dX11_keep_59 : decode cX11_keep 59 = .ok (.aload_n 0, 1) := by decide +kernel
theorem dX11_keep_60 : decode cX11_keep 60 = .ok (.getfield 31, 3) := by decide +kernel
theorem dX11_keep_63 : decode cX11_keep 63 = .ok (.iload_n 2, 1) := by decide +kernel
theorem dX11_keep_64 : decode cX11_keep 64 = .ok (.iaload, 1) := by decide +kernel
theorem dX11_keep_65 : decode cX11_keep 65 = .ok (.iconst 1, 1) := by decide +kernel
theorem dX11_keep_66 : decode cX11_keep 66 = .ok (.iadd, 1) := by decide +kernel
theorem dX11_keep_67 : decode cX11_keep 67 = .ok (.invokestatic 315, 3) := by decide +kernel
theorem dX11_keep_70 : decode cX11_keep 70 = .ok (.iastore, 1) := by decide +kernel
theorem dX11_keep_71 : decode cX11_keep 71 = .ok (.return_, 1) := by decide +kernel
theorem dX11_play_0 : decode cX11_play 0 = .ok (.aload_n 2, 1) := by decide +kernel
theorem dX11_play_1 : decode cX11_play 1 = .ok (.dup, 1) := by decide +kernel
theorem dX11_play_2 : decode cX11_play 2 = .ok (.getfield 293, 3) := by decide +kernel
theorem dX11_play_5 : decode cX11_play 5 = .ok (.iconst 1, 1) := by decide +kernel
theorem dX11_play_6 : decode cX11_play 6 = .ok (.iadd, 1) := by decide +kernel
theorem dX11_play_7 : decode cX11_play 7 = .ok (.putfield 293, 3) := by decide +kernel
theorem dX11_play_10 : decode cX11_play 10 = .ok (.aload_n 1, 1) := by decide +kernel
theorem dX11_play_11 : decode cX11_play 11 = .ok (.iload 4, 2) := by decide +kernel
theorem dX11_play_13 : decode cX11_play 13 = .ok (.iload 5, 2) := by decide +kernel
theorem dX11_play_15 : decode cX11_play 15 = .ok (.iconst 1, 1) := by decide +kernel
theorem dX11_play_16 : decode cX11_play 16 = .ok (.invokevirtual 194, 3) := by decide +kernel
theorem dX11_play_19 : decode cX11_play 19 = .ok (.istore 6, 2) := by decide +kernel
theorem dX11_play_21 : decode cX11_play 21 = .ok (.iload 6, 2) := by decide +kernel
theorem dX11_play_23 : decode cX11_play 23 = .ok (.ifCond .ne 15, 3) := by decide +kernel
theorem dX11_play_26 : decode cX11_play 26 = .ok (.aload_n 1, 1) := by decide +kernel
theorem dX11_play_27 : decode cX11_play 27 = .ok (.aload_n 2, 1) := by decide +kernel
theorem dX11_play_28 : decode cX11_play 28 = .ok (.iload 4, 2) := by decide +kernel
theorem dX11_play_30 : decode cX11_play 30 = .ok (.iload 5, 2) := by decide +kernel
theorem dX11_play_32 : decode cX11_play 32 = .ok (.invokevirtual 198, 3) := by decide +kernel
theorem dX11_play_35 : decode cX11_play 35 = .ok (.goto 4, 3) := by decide +kernel
theorem dX11_play_38 : decode cX11_play 38 = .ok (.iconst 0, 1) := by decide +kernel
theorem dX11_play_39 : decode cX11_play 39 = .ok (.istore 7, 2) := by decide +kernel
theorem dX11_play_41 : decode cX11_play 41 = .ok (.iload 7, 2) := by decide +kernel
theorem dX11_play_43 : decode cX11_play 43 = .ok (.ifCond .eq 12, 3) := by decide +kernel
theorem dX11_play_46 : decode cX11_play 46 = .ok (.iload_n 3, 1) := by decide +kernel
theorem dX11_play_47 : decode cX11_play 47 = .ok (.iconst 3, 1) := by decide +kernel
theorem dX11_play_48 : decode cX11_play 48 = .ok (.if_icmp .ne 7, 3) := by decide +kernel
theorem dX11_play_51 : decode cX11_play 51 = .ok (.bipush 6, 2) := by decide +kernel
theorem dX11_play_53 : decode cX11_play 53 = .ok (.istore 6, 2) := by decide +kernel
theorem dX11_play_55 : decode cX11_play 55 = .ok (.iload 6, 2) := by decide +kernel
theorem dX11_play_57 : decode cX11_play 57 = .ok (.ifCond .eq 23, 3) := by decide +kernel
theorem dX11_play_60 : decode cX11_play 60 = .ok (.aload_n 2, 1) := by decide +kernel
theorem dX11_play_61 : decode cX11_play 61 = .ok (.iload 6, 2) := by decide +kernel
theorem dX11_play_63 : decode cX11_play 63 = .ok (.aload_n 1, 1) := by decide +kernel
theorem dX11_play_64 : decode cX11_play 64 = .ok (.getfield 338, 3) := by decide +kernel
theorem dX11_play_67 : decode cX11_play 67 = .ok (.iload 4, 2) := by decide +kernel
theorem dX11_play_69 : decode cX11_play 69 = .ok (.iload 7, 2) := by decide +kernel
theorem dX11_play_71 : decode cX11_play 71 = .ok (.invokevirtual 341, 3) := by decide +kernel
theorem dX11_play_74 : decode cX11_play 74 = .ok (.bipush (-10), 2) := by decide +kernel
theorem dX11_play_76 : decode cX11_play 76 = .ok (.iload 6, 2) := by decide +kernel
theorem dX11_play_78 : decode cX11_play 78 = .ok (.isub, 1) := by decide +kernel
theorem dX11_play_79 : decode cX11_play 79 = .ok (.ireturn, 1) := by decide +kernel
theorem dX11_play_80 : decode cX11_play 80 = .ok (.aload_n 0, 1) := by decide +kernel
theorem dX11_play_81 : decode cX11_play 81 = .ok (.aload_n 1, 1) := by decide +kernel
theorem dX11_play_82 : decode cX11_play 82 = .ok (.invokevirtual 144, 3) := by decide +kernel
theorem dX11_play_85 : decode cX11_play 85 = .ok (.aload_n 1, 1) := by decide +kernel
theorem dX11_play_86 : decode cX11_play 86 = .ok (.getfield 135, 3) := by decide +kernel
theorem dX11_play_89 : decode cX11_play 89 = .ok (.getfield 160, 3) := by decide +kernel
theorem dX11_play_92 : decode cX11_play 92 = .ok (.iload_n 3, 1) := by decide +kernel
theorem dX11_play_93 : decode cX11_play 93 = .ok (.iload 4, 2) := by decide +kernel
theorem dX11_play_95 : decode cX11_play 95 = .ok (.iload 5, 2) := by decide +kernel
theorem dX11_play_97 : decode cX11_play 97 = .ok (.iconst 0, 1) := by decide +kernel
theorem dX11_play_98 : decode cX11_play 98 = .ok (.invokestatic 164, 3) := by decide +kernel
theorem dX11_play_101 : decode cX11_play 101 = .ok (.invokevirtual 168, 3) := by decide +kernel
theorem dX11_play_104 : decode cX11_play 104 = .ok (.aload_n 1, 1) := by decide +kernel
theorem dX11_play_105 : decode cX11_play 105 = .ok (.iload 4, 2) := by decide +kernel
theorem dX11_play_107 : decode cX11_play 107 = .ok (.iload 5, 2) := by decide +kernel
theorem dX11_play_109 : decode cX11_play 109 = .ok (.iload 7, 2) := by decide +kernel
theorem dX11_play_111 : decode cX11_play 111 = .ok (.iconst 1, 1) := by decide +kernel
theorem dX11_play_112 : decode cX11_play 112 = .ok (.if_icmp .ne 7, 3) := by decide +kernel
theorem dX11_play_115 : decode cX11_play 115 = .ok (.iconst 1, 1) := by decide +kernel
theorem dX11_play_116 : decode cX11_play 116 = .ok (.goto 4, 3) := by decide +kernel
theorem dX11_play_119 : decode cX11_play 119 = .ok (.iconst 0, 1) := by decide +kernel
theorem dX11_play_120 : decode cX11_play 120 = .ok (.invokevirtual 344, 3) := by decide +kernel
theorem dX11_play_123 : decode cX11_play 123 = .ok (.istore 8, 2) := by decide +kernel
theorem dX11_play_125 : decode cX11_play 125 = .ok (.aload_n 1, 1) := by decide +kernel
theorem dX11_play_126 : decode cX11_play 126 = .ok (.getfield 135, 3) := by decide +kernel
theorem dX11_play_129 : decode cX11_play 129 = .ok (.getfield 139, 3) := by decide +kernel
theorem dX11_play_132 : decode cX11_play 132 = .ok (.iconst (-1), 1) := by decide +kernel
theorem dX11_play_133 : decode cX11_play 133 = .ok (.if_icmp .ne 8, 3) := by decide +kernel
theorem dX11_play_136 : decode cX11_play 136 = .ok (.aload_n 1, 1) := by decide +kernel
theorem dX11_play_137 : decode cX11_play 137 = .ok (.aload_n 2, 1) := by decide +kernel
theorem dX11_play_138 : decode cX11_play 138 = .ok (.invokevirtual 347, 3) := by decide +kernel
theorem dX11_play_141 : decode cX11_play 141 = .ok (.iload 8, 2) := by decide +kernel
theorem dX11_play_143 : decode cX11_play 143 = .ok (.ireturn, 1) := by decide +kernel
theorem dX11_repeatAside_0 : decode cX11_repeatAside 0 = .ok (.iload_n 1, 1) := by decide +kernel
theorem dX11_repeatAside_1 : decode cX11_repeatAside 1 = .ok (.ifCond .ne 43, 3) := by decide +kernel
theorem dX11_repeatAside_4 : decode cX11_repeatAside 4 = .ok (.aload_n 0, 1) := by decide +kernel
theorem dX11_repeatAside_5 : decode cX11_repeatAside 5 = .ok (.getfield 34, 3) := by decide +kernel
theorem dX11_repeatAside_8 : decode cX11_repeatAside 8 = .ok (.iload_n 3, 1) := by decide +kernel
theorem dX11_repeatAside_9 : decode cX11_repeatAside 9 = .ok (.invokevirtual 101, 3) := by decide +kernel
theorem dX11_repeatAside_12 : decode cX11_repeatAside 12 = .ok (.ifCond .eq 32, 3) := by decide +kernel
theorem dX11_repeatAside_15 : decode cX11_repeatAside 15 = .ok (.aload_n 0, 1) := by decide +kernel
theorem dX11_repeatAside_16 : decode cX11_repeatAside 16 = .ok (.getfield 34, 3) := by decide +kernel
theorem dX11_repeatAside_19 : decode cX11_repeatAside 19 = .ok (.aload_n 0, 1) := by decide +kernel
theorem dX11_repeatAside_20 : decode cX11_repeatAside 20 = .ok (.getfield 47, 3) := by decide +kernel
theorem dX11_repeatAside_23 : decode cX11_repeatAside 23 = .ok (.iload_n 2, 1) := by decide +kernel
theorem dX11_repeatAside_24 : decode cX11_repeatAside 24 = .ok (.iload_n 3, 1) := by decide +kernel
theorem dX11_repeatAside_25 : decode cX11_repeatAside 25 = .ok (.invokevirtual 156, 3) := by decide +kernel
theorem dX11_repeatAside_28 : decode cX11_repeatAside 28 = .ok (.ifCond .ne 16, 3) := by decide +kernel
theorem dX11_repeatAside_31 : decode cX11_repeatAside 31 = .ok (.aload_n 0, 1) := by decide +kernel
theorem dX11_repeatAside_32 : decode cX11_repeatAside 32 = .ok (.getfield 34, 3) := by decide +kernel
theorem dX11_repeatAside_35 : decode cX11_repeatAside 35 = .ok (.iload_n 2, 1) := by decide +kernel
theorem dX11_repeatAside_36 : decode cX11_repeatAside 36 = .ok (.iload_n 3, 1) := by decide +kernel
theorem dX11_repeatAside_37 : decode cX11_repeatAside 37 = .ok (.invokevirtual 173, 3) := by decide +kernel
theorem dX11_repeatAside_40 : decode cX11_repeatAside 40 = .ok (.pop, 1) := by decide +kernel
theorem dX11_repeatAside_41 : decode cX11_repeatAside 41 = .ok (.goto 75, 3) := by decide +kernel
theorem dX11_repeatAside_44 : decode cX11_repeatAside 44 = .ok (.iload_n 1, 1) := by decide +kernel
theorem dX11_repeatAside_45 : decode cX11_repeatAside 45 = .ok (.iconst 1, 1) := by decide +kernel
theorem dX11_repeatAside_46 : decode cX11_repeatAside 46 = .ok (.if_icmp .ne 38, 3) := by decide +kernel
theorem dX11_repeatAside_49 : decode cX11_repeatAside 49 = .ok (.aload_n 0, 1) := by decide +kernel
theorem dX11_repeatAside_50 : decode cX11_repeatAside 50 = .ok (.getfield 34, 3) := by decide +kernel
theorem dX11_repeatAside_53 : decode cX11_repeatAside 53 = .ok (.aload_n 0, 1) := by decide +kernel
theorem dX11_repeatAside_54 : decode cX11_repeatAside 54 = .ok (.getfield 47, 3) := by decide +kernel
theorem dX11_repeatAside_57 : decode cX11_repeatAside 57 = .ok (.iload_n 2, 1) := by decide +kernel
theorem dX11_repeatAside_58 : decode cX11_repeatAside 58 = .ok (.iload_n 3, 1) := by decide +kernel
theorem dX11_repeatAside_59 : decode cX11_repeatAside 59 = .ok (.iload 4, 2) := by decide +kernel
theorem dX11_repeatAside_61 : decode cX11_repeatAside 61 = .ok (.invokevirtual 176, 3) := by decide +kernel
theorem dX11_repeatAside_64 : decode cX11_repeatAside 64 = .ok (.ifCond .ne 20, 3) := by decide +kernel
theorem dX11_repeatAside_67 : decode cX11_repeatAside 67 = .ok (.aload_n 0, 1) := by decide +kernel
theorem dX11_repeatAside_68 : decode cX11_repeatAside 68 = .ok (.getfield 34, 3) := by decide +kernel
theorem dX11_repeatAside_71 : decode cX11_repeatAside 71 = .ok (.getfield 135, 3) := by decide +kernel
theorem dX11_repeatAside_74 : decode cX11_repeatAside 74 = .ok (.iload_n 3, 1) := by decide +kernel
theorem dX11_repeatAside_75 : decode cX11_repeatAside 75 = .ok (.iload 4, 2) := by decide +kernel
theorem dX11_repeatAside_77 : decode cX11_repeatAside 77 = .ok (.iload_n 2, 1) := by decide +kernel
theorem dX11_repeatAside_78 : decode cX11_repeatAside 78 = .ok (.invokevirtual 180, 3) := by decide +kernel
theorem dX11_repeatAside_81 : decode cX11_repeatAside 81 = .ok (.goto 35, 3) := by decide +kernel
theorem dX11_repeatAside_84 : decode cX11_repeatAside 84 = .ok (.iload_n 1, 1) := by decide +kernel
theorem dX11_repeatAside_85 : decode cX11_repeatAside 85 = .ok (.iconst 2, 1) := by decide +kernel
theorem dX11_repeatAside_86 : decode cX11_repeatAside 86 = .ok (.if_icmp .ne 30, 3) := by decide +kernel
theorem dX11_repeatAside_89 : decode cX11_repeatAside 89 = .ok (.aload_n 0, 1) := by decide +kernel
theorem dX11_repeatAside_90 : decode cX11_repeatAside 90 = .ok (.getfield 34, 3) := by decide +kernel
theorem dX11_repeatAside_93 : decode cX11_repeatAside 93 = .ok (.iload_n 2, 1) := by decide +kernel
theorem dX11_repeatAside_94 : decode cX11_repeatAside 94 = .ok (.invokevirtual 184, 3) := by decide +kernel
theorem dX11_repeatAside_97 : decode cX11_repeatAside 97 = .ok (.ifCond .eq 19, 3) := by decide +kernel
theorem dX11_repeatAside_100 : decode cX11_repeatAside 100 = .ok (.aload_n 0, 1) := by decide +kernel
theorem dX11_repeatAside_101 : decode cX11_repeatAside 101 = .ok (.getfield 34, 3) := by decide +kernel
theorem dX11_repeatAside_104 : decode cX11_repeatAside 104 = .ok (.getfield 135, 3) := by decide +kernel
theorem dX11_repeatAside_107 : decode cX11_repeatAside 107 = .ok (.dup, 1) := by decide +kernel
theorem dX11_repeatAside_108 : decode cX11_repeatAside 108 = .ok (.getfield 187, 3) := by decide +kernel
theorem dX11_repeatAside_111 : decode cX11_repeatAside 111 = .ok (.iconst 1, 1) := by decide +kernel
theorem dX11_repeatAside_112 : decode cX11_repeatAside 112 = .ok (.iadd, 1) := by decide +kernel
theorem dX11_repeatAside_113 : decode cX11_repeatAside 113 = .ok (.putfield 187, 3) := by decide +kernel
theorem dX11_repeatAside_116 : decode cX11_repeatAside 116 = .ok (.return_, 1) := by decide +kernel
theorem dX12_init_0 : decode cX12_init 0 = .ok (.aload_n 0, 1) := by decide +kernel
theorem dX12_init_1 : decode cX12_init 1 = .ok (.invokespecial 1, 3) := by decide +kernel
theorem dX12_init_4 : decode cX12_init 4 = .ok (.aload_n 0, 1) := by decide +kernel
theorem dX12_init_5 : decode cX12_init 5 = .ok (.ldc 7, 2) := by decide +kernel
theorem dX12_init_7 : decode cX12_init 7 = .ok (.newarray .int, 2) := by decide +kernel
theorem dX12_init_9 : decode cX12_init 9 = .ok (.putfield 8, 3) := by decide +kernel
theorem dX12_init_12 : decode cX12_init 12 = .ok (.aload_n 0, 1) := by decide +kernel
theorem dX12_init_13 : decode cX12_init 13 = .ok (.iconst 4, 1) := by decide +kernel
theorem dX12_init_14 : decode cX12_init 14 = .ok (.newarray .boolean, 2) := by decide +kernel
theorem dX12_init_16 : decode cX12_init 16 = .ok (.putfield 14, 3) := by decide +kernel
theorem dX12_init_19 : decode cX12_init 19 = .ok (.aload_n 0, 1) := by decide +kernel
theorem dX12_init_20 : decode cX12_init 20 = .ok (.iconst 4, 1) := by decide +kernel
theorem dX12_init_21 : decode cX12_init 21 = .ok (.newarray .int, 2) := by decide +kernel
theorem dX12_init_23 : decode cX12_init 23 = .ok (.putfield 18, 3) := by decide +kernel
theorem dX12_init_26 : decode cX12_init 26 = .ok (.aload_n 0, 1) := by decide +kernel
theorem dX12_init_27 : decode cX12_init 27 = .ok (.bipush 6, 2) := by decide +kernel
theorem dX12_init_29 : decode cX12_init 29 = .ok (.newarray .int, 2) := by decide +kernel
theorem dX12_init_31 : decode cX12_init 31 = .ok (.putfield 21, 3) := by decide +kernel
theorem dX12_init_34 : decode cX12_init 34 = .ok (.aload_n 0, 1) := by decide +kernel
theorem dX12_init_35 : decode cX12_init 35 = .ok (.bipush 6, 2) := by decide +kernel
theorem dX12_init_37 : decode cX12_init 37 = .ok (.newarray .int, 2) := by decide +kernel
theorem dX12_init_39 : decode cX12_init 39 = .ok (.putfield 24, 3) := by decide +kernel
theorem dX12_init_42 : decode cX12_init 42 = .ok (.aload_n 0, 1) := by decide +kernel
theorem dX12_init_43 : decode cX12_init 43 = .ok (.bipush 6, 2) := by decide +kernel
theorem dX12_init_45 : decode cX12_init 45 = .ok (.newarray .int, 2) := by decide +kernel
theorem dX12_init_47 : decode cX12_init 47 = .ok (.putfield 27, 3) := by decide +kernel
theorem dX12_init_50 : decode cX12_init 50 = .ok (.aload_n 0, 1) := by decide +kernel
theorem dX12_init_51 : decode cX12_init 51 = .ok (.sipush 300, 3) := by decide +kernel
theorem dX12_init_54 : decode cX12_init 54 = .ok (.newarray .int, 2) := by decide +kernel
theorem dX12_init_56 : decode cX12_init 56 = .ok (.putfield 30, 3) := by decide +kernel
theorem dX12_init_59 : decode cX12_init 59 = .ok (.aload_n 0, 1) := by decide +kernel
theorem dX12_init_60 : decode cX12_init 60 = .ok (.bipush 60, 2) := by decide +kernel
theorem dX12_init_62 : decode cX12_init 62 = .ok (.newarray .int, 2) := by decide +kernel
theorem dX12_init_64 : decode cX12_init 64 = .ok (.putfield 33, 3) := by decide +kernel
theorem dX12_init_67 : decode cX12_init 67 = .ok (.aload_n 0, 1) := by decide +kernel
theorem dX12_init_68 : decode cX12_init 68 = .ok (.bipush 60, 2) := by decide +kernel
theorem dX12_init_70 : decode cX12_init 70 = .ok (.newarray .int, 2) := by decide +kernel
theorem dX12_init_72 : decode cX12_init 72 = .ok (.putfield 36, 3) := by decide +kernel
theorem dX12_init_75 : decode cX12_init 75 = .ok (.aload_n 0, 1) := by decide +kernel
theorem dX12_init_76 : decode cX12_init 76 = .ok (.iconst 4, 1) := by decide +kernel
theorem dX12_init_77 : decode cX12_init 77 = .ok (.newarray .int, 2) := by decide +kernel
theorem dX12_init_79 : decode cX12_init 79 = .ok (.putfield 39, 3) := by decide +kernel
theorem dX12_init_82 : decode cX12_init 82 = .ok (.aload_n 0, 1) := by decide +kernel
theorem dX12_init_83 : decode cX12_init 83 = .ok (.bipush 16, 2) := by decide +kernel
theorem dX12_init_85 : decode cX12_init 85 = .ok (.newarray .int, 2) := by decide +kernel
theorem dX12_init_87 : decode cX12_init 87 = .ok (.putfield 42, 3) := by decide +kernel
theorem dX12_init_90 : decode cX12_init 90 = .ok (.aload_n 0, 1) := by decide +kernel
theorem dX12_init_91 : decode cX12_init 91 = .ok (.iconst 4, 1) := by decide +kernel
theorem dX12_init_92 : decode cX12_init 92 = .ok (.newarray .int, 2) := by decide +kernel
theorem dX12_init_94 : decode cX12_init 94 = .ok (.putfield 45, 3) := by decide +kernel
theorem dX12_init_97 : decode cX12_init 97 = .ok (.aload_n 0, 1) := by decide +kernel
theorem dX12_init_98 : decode cX12_init 98 = .ok (.ldc 48, 2) := by decide +kernel
theorem dX12_init_100 : decode cX12_init 100 = .ok (.newarray .byte, 2) := by decide +kernel
theorem dX12_init_102 : decode cX12_init 102 = .ok (.putfield 49, 3) := by decide +kernel
theorem dX12_init_105 : decode cX12_init 105 = .ok (.aload_n 0, 1) := by decide +kernel
theorem dX12_init_106 : decode cX12_init 106 = .ok (.ldc 48, 2) := by decide +kernel
theorem dX12_init_108 : decode cX12_init 108 = .ok (.newarray .byte, 2) := by decide +kernel
theorem dX12_init_110 : decode cX12_init 110 = .ok (.putfield 53, 3) := by decide +kernel
theorem dX12_init_113 : decode cX12_init 113 = .ok (.aload_n 0, 1) := by decide +kernel
theorem dX12_init_114 : decode cX12_init 114 = .ok (.iconst (-1), 1) := by decide +kernel
theorem dX12_init_115 : decode cX12_init 115 = .ok (.putfield 56, 3) := by decide +kernel
theorem dX12_init_118 : decode cX12_init 118 = .ok (.aload_n 0, 1) := by decide +kernel
theorem dX12_init_119 : decode cX12_init 119 = .ok (.iconst 4, 1) := by decide +kernel
theorem dX12_init_120 : decode cX12_init 120 = .ok (.newarray .int, 2) := by decide +kernel
theorem dX12_init_122 : decode cX12_init 122 = .ok (.putfield 60, 3) := by decide +kernel
theorem dX12_init_125 : decode cX12_init 125 = .ok (.aload_n 0, 1) := by decide +kernel
theorem dX12_init_126 : decode cX12_init 126 = .ok (.iconst 4, 1) := by decide +kernel
theorem dX12_init_127 : decode cX12_init 127 = .ok (.newarray .int, 2) := by decide +kernel
theorem dX12_init_129 : decode cX12_init 129 = .ok (.putfield 63, 3) := by decide +kernel
theorem dX12_init_132 : decode cX12_init 132 = .ok (.aload_n 0, 1) := by decide +kernel
theorem dX12_init_133 : decode cX12_init 133 = .ok (.iconst 4, 1) := by decide +kernel
theorem dX12_init_134 : decode cX12_init 134 = .ok (.newarray .int, 2) := by decide +kernel
theorem dX12_init_136 : decode cX12_init 136 = .ok (.putfield 66, 3) := by decide +kernel
theorem dX12_init_139 : decode cX12_init 139 = .ok (.aload_n 0, 1) := by decide +kernel
theorem dX12_init_140 : decode cX12_init 140 = .ok (.iconst 4, 1) := by decide +kernel
theorem dX12_init_141 : decode cX12_init 141 = .ok (.newarray .boolean, 2) := by decide +kernel
theorem dX12_init_143 : decode cX12_init 143 = .ok (.putfield 69, 3) := by decide +kernel
theorem dX12_init_146 : decode cX12_init 146 = .ok (.aload_n 0, 1) := by decide +kernel
theorem dX12_init_147 : decode cX12_init 147 = .ok (.iconst 4, 1) := by decide +kernel
theorem dX12_init_148 : decode cX12_init 148 = .ok (.newarray .int, 2) := by decide +kernel
theorem dX12_init_150 : decode cX12_init 150 = .ok (.putfield 72, 3) := by decide +kernel
theorem dX12_init_153 : decode cX12_init 153 = .ok (.aload_n 0, 1) := by decide +kernel
theorem dX12_init_154 : decode cX12_init 154 = .ok (.iconst 4, 1) := by decide +kernel
theorem dX12_init_155 : decode cX12_init 155 = .ok (.newarray .int, 2) := by decide +kernel
theorem dX12_init_157 : decode cX12_init 157 = .ok (.putfield 75, 3) := by decide +kernel
theorem dX12_init_160 : decode cX12_init 160 = .ok (.iconst 0, 1) := by decide +kernel
theorem dX12_init_161 : decode cX12_init 161 = .ok (.istore_n 1, 1) := by decide +kernel
theorem dX12_init_162 : decode cX12_init 162 = .ok (.iload_n 1, 1) := by decide +kernel
theorem dX12_init_163 : decode cX12_init 163 = .ok (.bipush 6, 2) := by decide +kernel
theorem dX12_init_165 : decode cX12_init 165 = .ok (.if_icmp .ge 16, 3) := by decide +kernel
theorem dX12_init_168 : decode cX12_init 168 = .ok (.aload_n 0, 1) := by decide +kernel
theorem dX12_init_169 : decode cX12_init 169 = .ok (.getfield 21, 3) := by decide +kernel
theorem dX12_init_172 : decode cX12_init 172 = .ok (.iload_n 1, 1) := by decide +kernel
theorem dX12_init_173 : decode cX12_init 173 = .ok (.iconst (-1), 1) := by decide +kernel
theorem dX12_init_174 : decode cX12_init 174 = .ok (.iastore, 1) := by decide +kernel
theorem dX12_init_175 : decode cX12_init 175 = .ok (.iinc 1 1, 3) := by decide +kernel
theorem dX12_init_178 : decode cX12_init 178 = .ok (.goto (-16), 3) := by decide +kernel
theorem dX12_init_181 : decode cX12_init 181 = .ok (.return_, 1) := by decide +kernel
theorem dX12_in_0 : decode cX12_in 0 = .ok (.iload_n 0, 1) := by decide +kernel
theorem dX12_in_1 : decode cX12_in 1 = .ok (.iload_n 1, 1) := by decide +kernel
theorem dX12_in_2 : decode cX12_in 2 = .ok (.if_icmp .lt 12, 3) := by decide +kernel
theorem dX12_in_5 : decode cX12_in 5 = .ok (.iload_n 0, 1) := by decide +kernel
theorem dX12_in_6 : decode cX12_in 6 = .ok (.iload_n 2, 1) := by decide +kernel
theorem dX12_in_7 : decode cX12_in 7 = .ok (.if_icmp .gt 7, 3) := by decide +kernel
theorem dX12_in_10 : decode cX12_in 10 = .ok (.iconst 1, 1) := by decide +kernel
theorem dX12_in_11 : decode cX12_in 11 = .ok (.goto 4, 3) := by decide +kernel
theorem dX12_in_14 : decode cX12_in 14 = .ok (.iconst 0, 1) := by decide +kernel
theorem dX12_in_15 : decode cX12_in 15 = .ok (.ireturn, 1) := by decide +kernel
theorem dX12_least_0 : decode cX12_least 0 = .ok (.iload_n 0, 1) := by decide +kernel
theorem dX12_least_1 : decode cX12_least 1 = .ok (.iload_n 1, 1) := by decide +kernel
theorem dX12_least_2 : decode cX12_least 2 = .ok (.if_icmp .ge 7, 3) := by decide +kernel
theorem dX12_least_5 : decode cX12_least 5 = .ok (.iload_n 0, 1) := by decide +kernel
theorem dX12_least_6 : decode cX12_least 6 = .ok (.goto 4, 3) := by decide +kernel
theorem dX12_least_9 : decode cX12_least 9 = .ok (.iload_n 1, 1) := by decide +kernel
theorem dX12_least_10 : decode cX12_least 10 = .ok (.ireturn, 1) := by decide +kernel
theorem dX12_most_0 : decode cX12_most 0 = .ok (.iload_n 0, 1) := by decide +kernel
theorem dX12_most_1 : decode cX12_most 1 = .ok (.iload_n 1, 1) := by decide +kernel
theorem dX12_most_2 : decode cX12_most 2 = .ok (.if_icmp .le 7, 3) := by decide +kernel
theorem dX12_most_5 : decode cX12_most 5 = .ok (.iload_n 0, 1) := by decide +kernel
theorem dX12_most_6 : decode cX12_most 6 = .ok (.goto 4, 3) := by decide +kernel
theorem dX12_most_9 : decode cX12_most 9 = .ok (.iload_n 1, 1) := by decide +kernel
theorem dX12_most_10 : decode cX12_most 10 = .ok (.ireturn, 1) := by decide +kernel
theorem dX12_body_0 : decode cX12_body 0 = .ok (.aload_n 0, 1) := by decide +kernel
theorem dX12_body_1 : decode cX12_body 1 = .ok (.getfield 78, 3) := by decide +kernel
theorem dX12_body_4 : decode cX12_body 4 = .ok (.ifCond .eq 4, 3) := by decide +kernel
theorem dX12_body_7 : decode cX12_body 7 = .ok (.return_, 1) := by decide +kernel
theorem dX12_body_8 : decode cX12_body 8 = .ok (.aload_n 0, 1) := by decide +kernel
theorem dX12_body_9 : decode cX12_body 9 = .ok (.getfield 33, 3) := by decide +kernel
theorem dX12_body_12 : decode cX12_body 12 = .ok (.aload_n 0, 1) := by decide +kernel
theorem dX12_body_13 : decode cX12_body 13 = .ok (.getfield 82, 3) := by decide +kernel
theorem dX12_body_16 : decode cX12_body 16 = .ok (.bipush 60, 2) := by decide +kernel
theorem dX12_body_18 : decode cX12_body 18 = .ok (.irem, 1) := by decide +kernel
theorem dX12_body_19 : decode cX12_body 19 = .ok (.iload_n 1, 1) := by decide +kernel
theorem dX12_body_20 : decode cX12_body 20 = .ok (.iastore, 1) := by decide +kernel
theorem dX12_body_21 : decode cX12_body 21 = .ok (.aload_n 0, 1) := by decide +kernel
theorem dX12_body_22 : decode cX12_body 22 = .ok (.dup, 1) := by decide +kernel
theorem dX12_body_23 : decode cX12_body 23 = .ok (.getfield 82, 3) := by decide +kernel
theorem dX12_body_26 : decode cX12_body 26 = .ok (.iconst 1, 1) := by decide +kernel
theorem dX12_body_27 : decode cX12_body 27 = .ok (.iadd, 1) := by decide +kernel
theorem dX12_body_28 : decode cX12_body 28 = .ok (.putfield 82, 3) := by decide +kernel
theorem dX12_body_31 : decode cX12_body 31 = .ok (.return_, 1) := by decide +kernel
theorem dX12_find_0 : decode cX12_find 0 = .ok (.aload_n 0, 1) := by decide +kernel
theorem dX12_find_1 : decode cX12_find 1 = .ok (.getfield 78, 3) := by decide +kernel
theorem dX12_find_4 : decode cX12_find 4 = .ok (.ifCond .eq 4, 3) := by decide +kernel
theorem dX12_find_7 : decode cX12_find 7 = .ok (.return_, 1) := by decide +kernel
theorem dX12_find_8 : decode cX12_find 8 = .ok (.iconst 5, 1) := by decide +kernel
theorem dX12_find_9 : decode cX12_find 9 = .ok (.aload_n 0, 1) := by decide +kernel
theorem dX12_find_10 : decode cX12_find 10 = .ok (.getfield 85, 3) := by decide +kernel
theorem dX12_find_13 : decode cX12_find 13 = .ok (.bipush 60, 2) := by decide +kernel
theorem dX12_find_15 : decode cX12_find 15 = .ok (.irem, 1) := by decide +kernel
theorem dX12_find_16 : decode cX12_find 16 = .ok (.imul, 1) := by decide +kernel
theorem dX12_find_17 : decode cX12_find 17 = .ok (.istore 5, 2) := by decide +kernel
theorem dX12_find_19 : decode cX12_find 19 = .ok (.aload_n 0, 1) := by decide +kernel
theorem dX12_find_20 : decode cX12_find 20 = .ok (.getfield 30, 3) := by decide +kernel
theorem dX12_find_23 : decode cX12_find 23 = .ok (.iload 5, 2) := by decide +kernel
theorem dX12_find_25 : decode cX12_find 25 = .ok (.iload_n 1, 1) := by decide +kernel
theorem dX12_find_26 : decode cX12_find 26 = .ok (.iastore, 1) := by decide +kernel
theorem dX12_find_27 : decode cX12_find 27 = .ok (.aload_n 0, 1) := by decide +kernel
theorem dX12_find_28 : decode cX12_find 28 = .ok (.getfield 30, 3) := by decide +kernel
theorem dX12_find_31 : decode cX12_find 31 = .ok (.iload 5, 2) := by decide +kernel
theorem dX12_find_33 : decode cX12_find 33 = .ok (.iconst 1, 1) := by decide +kernel
theorem dX12_find_34 : decode cX12_find 34 = .ok (.iadd, 1) := by decide +kernel
theorem dX12_find_35 : decode cX12_find 35 = .ok (.iload_n 2, 1) := by decide +kernel
theorem dX12_find_36 : decode cX12_find 36 = .ok (.iastore, 1) := by decide +kernel
theorem dX12_find_37 : decode cX12_find 37 = .ok (.aload_n 0, 1) := by decide +kernel
theorem dX12_find_38 : decode cX12_find 38 = .ok (.getfield 30, 3) := by decide +kernel
theorem dX12_find_41 : decode cX12_find 41 = .ok (.iload 5, 2) := by decide +kernel
theorem dX12_find_43 : decode cX12_find 43 = .ok (.iconst 2, 1) := by decide +kernel
theorem dX12_find_44 : decode cX12_find 44 = .ok (.iadd, 1) := by decide +kernel
theorem dX12_find_45 : decode cX12_find 45 = .ok (.iload_n 3, 1) := by decide +kernel
theorem dX12_find_46 : decode cX12_find 46 = .ok (.iastore, 1) := by decide +kernel
theorem dX12_find_47 : decode cX12_find 47 = .ok (.aload_n 0, 1) := by decide +kernel
theorem dX12_find_48 : decode cX12_find 48 = .ok (.getfield 30, 3) := by decide +kernel
theorem dX12_find_51 : decode cX12_find 51 = .ok (.iload 5, 2) := by decide +kernel
theorem dX12_find_53 : decode cX12_find 53 = .ok (.iconst 3, 1) := by decide +kernel
theorem dX12_find_54 : decode cX12_find 54 = .ok (.iadd, 1) := by decide +kernel
theorem dX12_find_55 : decode cX12_find 55 = .ok (.iload 4, 2) := by decide +kernel
theorem dX12_find_57 : decode cX12_find 57 = .ok (.iastore, 1) := by decide +kernel
theorem dX12_find_58 : decode cX12_find 58 = .ok (.aload_n 0, 1) := by decide +kernel
theorem dX12_find_59 : decode cX12_find 59 = .ok (.getfield 30, 3) := by decide +kernel
theorem dX12_find_62 : decode cX12_find 62 = .ok (.iload 5, 2) := by decide +kernel
theorem dX12_find_64 : decode cX12_find 64 = .ok (.iconst 4, 1) := by decide +kernel
theorem dX12_find_65 : decode cX12_find 65 = .ok (.iadd, 1) := by decide +kernel
theorem dX12_find_66 : decode cX12_find 66 = .ok (.aload_n 0, 1) := by decide +kernel
theorem dX12_find_67 : decode cX12_find 67 = .ok (.getfield 88, 3) := by decide +kernel
theorem dX12_find_70 : decode cX12_find 70 = .ok (.iastore, 1) := by decide +kernel
theorem dX12_find_71 : decode cX12_find 71 = .ok (.aload_n 0, 1) := by decide +kernel
theorem dX12_find_72 : decode cX12_find 72 = .ok (.dup, 1) := by decide +kernel
theorem dX12_find_73 : decode cX12_find 73 = .ok (.getfield 85, 3) := by decide +kernel
theorem dX12_find_76 : decode cX12_find 76 = .ok (.iconst 1, 1) := by decide +kernel
theorem dX12_find_77 : decode cX12_find 77 = .ok (.iadd, 1) := by decide +kernel
theorem dX12_find_78 : decode cX12_find 78 = .ok (.putfield 85, 3) := by decide +kernel
theorem dX12_find_81 : decode cX12_find 81 = .ok (.return_, 1) := by decide +kernel
theorem dX12_isTable_0 : decode cX12_isTable 0 = .ok (.iload_n 1, 1) := by decide +kernel
theorem dX12_isTable_1 : decode cX12_isTable 1 = .ok (.iconst 0, 1) := by decide +kernel
theorem dX12_isTable_2 : decode cX12_isTable 2 = .ok (.iconst 3, 1) := by decide +kernel
theorem dX12_isTable_3 : decode cX12_isTable 3 = .ok (.invokestatic 91, 3) := by decide +kernel
theorem dX12_isTable_6 : decode cX12_isTable 6 = .ok (.ifCond .eq 16, 3) := by decide +kernel
theorem dX12_isTable_9 : decode cX12_isTable 9 = .ok (.aload_n 0, 1) := by decide +kernel
theorem dX12_isTable_10 : decode cX12_isTable 10 = .ok (.getfield 14, 3) := by decide +kernel
theorem dX12_isTable_13 : decode cX12_isTable 13 = .ok (.iload_n 1, 1) := by decide +kernel
theorem dX12_isTable_14 : decode cX12_isTable 14 = .ok (.baload, 1) := by decide +kernel
theorem dX12_isTable_15 : decode cX12_isTable 15 = .ok (.ifCond .eq 7, 3) := by decide +kernel
theorem dX12_isTable_18 : decode cX12_isTable 18 = .ok (.iconst 1, 1) := by decide +kernel
theorem dX12_isTable_19 : decode cX12_isTable 19 = .ok (.goto 4, 3) := by decide +kernel
theorem dX12_isTable_22 : decode cX12_isTable 22 = .ok (.iconst 0, 1) := by decide +kernel
theorem dX12_isTable_23 : decode cX12_isTable 23 = .ok (.ireturn, 1) := by decide +kernel
theorem dX12_isSeat_0 : decode cX12_isSeat 0 = .ok (.iload_n 0, 1) := by decide +kernel
theorem dX12_isSeat_1 : decode cX12_isSeat 1 = .ok (.iconst 0, 1) := by decide +kernel
theorem dX12_isSeat_2 : decode cX12_isSeat 2 = .ok (.iconst 3, 1) := by decide +kernel
theorem dX12_isSeat_3 : decode cX12_isSeat 3 = .ok (.invokestatic 91, 3) := by decide +kernel
theorem dX12_isSeat_6 : decode cX12_isSeat 6 = .ok (.ireturn, 1) := by decide +kernel
theorem dX12_isCard_0 : decode cX12_isCard 0 = .ok (.iload_n 2, 1) := by decide +kernel
theorem dX12_isCard_1 : decode cX12_isCard 1 = .ok (.iconst 0, 1) := by decide +kernel
theorem dX12_isCard_2 : decode cX12_isCard 2 = .ok (.aload_n 0, 1) := by decide +kernel
theorem dX12_isCard_3 : decode cX12_isCard 3 = .ok (.getfield 8, 3) := by decide +kernel
theorem dX12_isCard_6 : decode cX12_isCard 6 = .ok (.sipush 1290, 3) := by decide +kernel
theorem dX12_isCard_9 : decode cX12_isCard 9 = .ok (.iload_n 1, 1) := by decide +kernel
theorem dX12_isCard_10 : decode cX12_isCard 10 = .ok (.imul, 1) := by decide +kernel
theorem dX12_isCard_11 : decode cX12_isCard 11 = .ok (.iconst 1, 1) := by decide +kernel
theorem dX12_isCard_12 : decode cX12_isCard 12 = .ok (.iadd, 1) := by decide +kernel
theorem dX12_isCard_13 : decode cX12_isCard 13 = .ok (.iaload, 1) := by decide +kernel
theorem dX12_isCard_14 : decode cX12_isCard 14 = .ok (.iconst 1, 1) := by decide +kernel
theorem dX12_isCard_15 : decode cX12_isCard 15 = .ok (.isub, 1) := by decide +kernel
theorem dX12_isCard_16 : decode cX12_isCard 16 = .ok (.invokestatic 91, 3) := by decide +kernel
theorem dX12_isCard_19 : decode cX12_isCard 19 = .ok (.ireturn, 1) := by decide +kernel
theorem dX12_copy_0 : decode cX12_copy 0 = .ok (.iconst 0, 1) := by decide +kernel
theorem dX12_copy_1 : decode cX12_copy 1 = .ok (.istore_n 3, 1) := by decide +kernel
theorem dX12_copy_2 : decode cX12_copy 2 = .ok (.iload_n 3, 1) := by decide +kernel
theorem dX12_copy_3 : decode cX12_copy 3 = .ok (.sipush 1290, 3) := by decide +kernel
theorem dX12_copy_6 : decode cX12_copy 6 = .ok (.if_icmp .ge 33, 3) := by decide +kernel
theorem dX12_copy_9 : decode cX12_copy 9 = .ok (.aload_n 0, 1) := by decide +kernel
theorem dX12_copy_10 : decode cX12_copy 10 = .ok (.getfield 8, 3) := by decide +kernel
theorem dX12_copy_13 : decode cX12_copy 13 = .ok (.sipush 1290, 3) := by decide +kernel
theorem dX12_copy_16 : decode cX12_copy 16 = .ok (.iload_n 2, 1) := by decide +kernel
theorem dX12_copy_17 : decode cX12_copy 17 = .ok (.imul, 1) := by decide +kernel
theorem dX12_copy_18 : decode cX12_copy 18 = .ok (.iload_n 3, 1) := by decide +kernel
theorem dX12_copy_19 : decode cX12_copy 19 = .ok (.iadd, 1) := by decide +kernel
theorem dX12_copy_20 : decode cX12_copy 20 = .ok (.aload_n 0, 1) := by decide +kernel
theorem dX12_copy_21 : decode cX12_copy 21 = .ok (.getfield 8, 3) := by decide +kernel
theorem dX12_copy_24 : decode cX12_copy 24 = .ok (.sipush 1290, 3) := by decide +kernel
theorem dX12_copy_27 : decode cX12_copy 27 = .ok (.iload_n 1, 1) := by decide +kernel
theorem dX12_copy_28 : decode cX12_copy 28 = .ok (.imul, 1) := by decide +kernel
theorem dX12_copy_29 : decode cX12_copy 29 = .ok (.iload_n 3, 1) := by decide +kernel
theorem dX12_copy_30 : decode cX12_copy 30 = .ok (.iadd, 1) := by decide +kernel
theorem dX12_copy_31 : decode cX12_copy 31 = .ok (.iaload, 1) := by decide +kernel
theorem dX12_copy_32 : decode cX12_copy 32 = .ok (.iastore, 1) := by decide +kernel
theorem dX12_copy_33 : decode cX12_copy 33 = .ok (.iinc 3 1, 3) := by decide +kernel
theorem dX12_copy_36 : decode cX12_copy 36 = .ok (.goto (-34), 3) := by decide +kernel
theorem dX12_copy_39 : decode cX12_copy 39 = .ok (.return_, 1) := by decide +kernel
theorem dX12_keep_0 : decode cX12_keep 0 = .ok (.aload_n 0, 1) := by decide +kernel
theorem dX12_keep_1 : decode cX12_keep 1 = .ok (.iconst (-1), 1) := by decide +kernel
theorem dX12_keep_2 : decode cX12_keep 2 = .ok (.putfield 56, 3) := by decide +kernel
theorem dX12_keep_5 : decode cX12_keep 5 = .ok (.aload_n 0, 1) := by decide +kernel
theorem dX12_keep_6 : decode cX12_keep 6 = .ok (.getfield 18, 3) := by decide +kernel
theorem dX12_keep_9 : decode cX12_keep 9 = .ok (.iload_n 1, 1) := by decide +kernel
theorem dX12_keep_10 : decode cX12_keep 10 = .ok (.iaload, 1) := by decide +kernel
theorem dX12_keep_11 : decode cX12_keep 11 = .ok (.bipush 8, 2) := by decide +kernel
theorem dX12_keep_13 : decode cX12_keep 13 = .ok (.if_icmp .ne 48, 3) := by decide +kernel
theorem dX12_keep_16 : decode cX12_keep 16 = .ok (.iconst 0, 1) := by decide +kernel
theorem dX12_keep_17 : decode cX12_keep 17 = .ok (.istore_n 2, 1) := by decide +kernel
theorem dX12_keep_18 : decode cX12_keep 18 = .ok (.iload_n 2, 1) := by decide +kernel
theorem dX12_keep_19 : decode cX12_keep 19 = .ok (.bipush 7, 2) := by decide +kernel
theorem dX12_keep_21 : decode cX12_keep 21 = .ok (.if_icmp .ge 30, 3) := by decide +kernel
theorem dX12_keep_24 : decode cX12_keep 24 = .ok (.aload_n 0, 1) := by decide +kernel
theorem dX12_keep_25 : decode cX12_keep 25 = .ok (.bipush 6, 2) := by decide +kernel
theorem dX12_keep_27 : decode cX12_keep 27 = .ok (.bipush 8, 2) := by decide +kernel
theorem dX12_keep_29 : decode cX12_keep 29 = .ok (.iload_n 1, 1) := by decide +kernel
theorem dX12_keep_30 : decode cX12_keep 30 = .ok (.imul, 1) := by decide +kernel
theorem dX12_keep_31 : decode cX12_keep 31 = .ok (.iadd, 1) := by decide +kernel
theorem dX12_keep_32 : decode cX12_keep 32 = .ok (.iload_n 2, 1) := by decide +kernel
theorem dX12_keep_33 : decode cX12_keep 33 = .ok (.iadd, 1) := by decide +kernel
theorem dX12_keep_34 : decode cX12_keep 34 = .ok (.iconst 5, 1) := by decide +kernel
theorem dX12_keep_35 : decode cX12_keep 35 = .ok (.bipush 8, 2) := by decide +kernel
theorem dX12_keep_37 : decode cX12_keep 37 = .ok (.iload_n 1, 1) := by decide +kernel
theorem dX12_keep_38 : decode cX12_keep 38 = .ok (.imul, 1) := by decide +kernel
theorem dX12_keep_39 : decode cX12_keep 39 = .ok (.iadd, 1) := by decide +kernel
theorem dX12_keep_40 : decode cX12_keep 40 = .ok (.iload_n 2, 1) := by decide +kernel
theorem dX12_keep_41 : decode cX12_keep 41 = .ok (.iadd, 1) := by decide +kernel
theorem dX12_keep_42 : decode cX12_keep 42 = .ok (.invokevirtual 95, 3) := by decide +kernel
theorem dX12_keep_45 : decode cX12_keep 45 = .ok (.iinc 2 1, 3) := by decide +kernel
theorem dX12_keep_48 : decode cX12_keep 48 = .ok (.goto (-30), 3) := by decide +kernel
theorem dX12_keep_51 : decode cX12_keep 51 = .ok (.aload_n 0, 1) := by decide +kernel
theorem dX12_keep_52 : decode cX12_keep 52 = .ok (.getfield 18, 3) := by decide +kernel
theorem dX12_keep_55 : decode cX12_keep 55 = .ok (.iload_n 1, 1) := by decide +kernel
theorem dX12_keep_56 : decode cX12_keep 56 = .ok (.dup2, 1) := by decide +kernel
theorem dX12_keep_57 : decode cX12_keep 57 = .ok (.iaload, 1) := by decide +kernel
theorem dX12_keep_58 : decode cX12_keep 58 = .ok (.iconst 1, 1) := by decide +kernel
theorem dX12_keep_59 : decode cX12_keep 59 = .ok (.isub, 1) := by decide +kernel
theorem dX12_keep_60 : decode cX12_keep 60 = .ok (.iastore, 1) := by decide +kernel
theorem dX12_keep_61 : decode cX12_keep 61 = .ok (.aload_n 0, 1) := by decide +kernel
theorem dX12_keep_62 : decode cX12_keep 62 = .ok (.iload_n 1, 1) := by decide +kernel
theorem dX12_keep_63 : decode cX12_keep 63 = .ok (.iconst 5, 1) := by decide +kernel
theorem dX12_keep_64 : decode cX12_keep 64 = .ok (.bipush 8, 2) := by decide +kernel
theorem dX12_keep_66 : decode cX12_keep 66 = .ok (.iload_n 1, 1) := by decide +kernel
theorem dX12_keep_67 : decode cX12_keep 67 = .ok (.imul, 1) := by decide +kernel
theorem dX12_keep_68 : decode cX12_keep 68 = .ok (.iadd, 1) := by decide +kernel
theorem dX12_keep_69 : decode cX12_keep 69 = .ok (.aload_n 0, 1) := by decide +kernel
theorem dX12_keep_70 : decode cX12_keep 70 = .ok (.getfield 18, 3) := by decide +kernel
theorem dX12_keep_73 : decode cX12_keep 73 = .ok (.iload_n 1, 1) := by decide +kernel
theorem dX12_keep_74 : decode cX12_keep 74 = .ok (.iaload, 1) := by decide +kernel
theorem dX12_keep_75 : decode cX12_keep 75 = .ok (.iadd, 1) := by decide +kernel
theorem dX12_keep_76 : decode cX12_keep 76 = .ok (.invokevirtual 95, 3) := by decide +kernel
theorem dX12_keep_79 : decode cX12_keep 79 = .ok (.aload_n 0, 1) := by decide +kernel
theorem dX12_keep_80 : decode cX12_keep 80 = .ok (.getfield 18, 3) := by decide +kernel
theorem dX12_keep_83 : decode cX12_keep 83 = .ok (.iload_n 1, 1) := by decide +kernel
theorem dX12_keep_84 : decode cX12_keep 84 = .ok (.dup2, 1) := by decide +kernel
theorem dX12_keep_85 : decode cX12_keep 85 = .ok (.iaload, 1) := by decide +kernel
theorem dX12_keep_86 : decode cX12_keep 86 = .ok (.iconst 1, 1) := by decide +kernel
theorem dX12_keep_87 : decode cX12_keep 87 = .ok (.iadd, 1) := by decide +kernel
theorem dX12_keep_88 : decode cX12_keep 88 = .ok (.iastore, 1) := by decide +kernel
theorem dX12_keep_89 : decode cX12_keep 89 = .ok (.return_, 1) := by decide +kernel
theorem dX12_tell_0 : decode cX12_tell 0 = .ok (.aload_n 0, 1) := by decide +kernel
theorem dX12_tell_1 : decode cX12_tell 1 = .ok (.getfield 8, 3) := by decide +kernel
theorem dX12_tell_4 : decode cX12_tell 4 = .ok (.iload_n 1, 1) := by decide +kernel
theorem dX12_tell_5 : decode cX12_tell 5 = .ok (.bipush 44, 2) := by decide +kernel
theorem dX12_tell_7 : decode cX12_tell 7 = .ok (.iadd, 1) := by decide +kernel
theorem dX12_tell_8 : decode cX12_tell 8 = .ok (.iaload, 1) := by decide +kernel
theorem dX12_tell_9 : decode cX12_tell 9 = .ok (.istore 6, 2) := by decide +kernel
theorem dX12_tell_11 : decode cX12_tell 11 = .ok (.iload 6, 2) := by decide +kernel
theorem dX12_tell_13 : decode cX12_tell 13 = .ok (.bipush 100, 2) := by decide +kernel
theorem dX12_tell_15 : decode cX12_tell 15 = .ok (.if_icmp .ge 75, 3) := by decide +kernel
theorem dX12_tell_18 : decode cX12_tell 18 = .ok (.aload_n 0, 1) := by decide +kernel
theorem dX12_tell_19 : decode cX12_tell 19 = .ok (.getfield 8, 3) := by decide +kernel
theorem dX12_tell_22 : decode cX12_tell 22 = .ok (.iload_n 1, 1) := by decide +kernel
theorem dX12_tell_23 : decode cX12_tell 23 = .ok (.sipush 890, 3) := by decide +kernel
theorem dX12_tell_26 : decode cX12_tell 26 = .ok (.iadd, 1) := by decide +kernel
theorem dX12_tell_27 : decode cX12_tell 27 = .ok (.iconst 4, 1) := by decide +kernel
theorem dX12_tell_28 : decode cX12_tell 28 = .ok (.iload 6, 2) := by decide +kernel
theorem dX12_tell_30 : decode cX12_tell 30 = .ok (.imul, 1) := by decide +kernel
theorem dX12_tell_31 : decode cX12_tell 31 = .ok (.iadd, 1) := by decide +kernel
theorem dX12_tell_32 : decode cX12_tell 32 = .ok (.iload_n 2, 1) := by decide +kernel
theorem dX12_tell_33 : decode cX12_tell 33 = .ok (.iastore, 1) := by decide +kernel
theorem dX12_tell_34 : decode cX12_tell 34 = .ok (.aload_n 0, 1) := by decide +kernel
theorem dX12_tell_35 : decode cX12_tell 35 = .ok (.getfield 8, 3) := by decide +kernel
theorem dX12_tell_38 : decode cX12_tell 38 = .ok (.iload_n 1, 1) := by decide +kernel
theorem dX12_tell_39 : decode cX12_tell 39 = .ok (.sipush 890, 3) := by decide +kernel
theorem dX12_tell_42 : decode cX12_tell 42 = .ok (.iadd, 1) := by decide +kernel
theorem dX12_tell_43 : decode cX12_tell 43 = .ok (.iconst 4, 1) := by decide +kernel
theorem dX12_tell_44 : decode cX12_tell 44 = .ok (.iload 6, 2) := by decide +kernel
theorem dX12_tell_46 : decode cX12_tell 46 = .ok (.imul, 1) := by decide +kernel
theorem dX12_tell_47 : decode cX12_tell 47 = .ok (.iadd, 1) := by decide +kernel
theorem dX12_tell_48 : decode cX12_tell 48 = .ok (.iconst 1, 1) := by decide +kernel
theorem dX12_tell_49 : decode cX12_tell 49 = .ok (.iadd, 1) := by decide +kernel
theorem dX12_tell_50 : decode cX12_tell 50 = .ok (.iload_n 3, 1) := by decide +kernel
theorem dX12_tell_51 : decode cX12_tell 51 = .ok (.iastore, 1) := by decide +kernel
theorem dX12_tell_52 : decode cX12_tell 52 = .ok (.aload_n 0, 1) := by decide +kernel
theorem dX12_tell_53 : decode cX12_tell 53 = .ok (.getfield 8, 3) := by decide +kernel
theorem dX12_tell_56 : decode cX12_tell 56 = .ok (.iload_n 1, 1) := by decide +kernel
theorem dX12_tell_57 : decode cX12_tell 57 = .ok (.sipush 890, 3) := by decide +kernel
theorem dX12_tell_60 : decode cX12_tell 60 = .ok (.iadd, 1) := by decide +kernel
theorem dX12_tell_61 : decode cX12_tell 61 = .ok (.iconst 4, 1) := by decide +kernel
theorem dX12_tell_62 : decode cX12_tell 62 = .ok (.iload 6, 2) := by decide +kernel
theorem dX12_tell_64 : decode cX12_tell 64 = .ok (.imul, 1) := by decide +kernel
theorem dX12_tell_65 : decode cX12_tell 65 = .ok (.iadd, 1) := by decide +kernel
theorem dX12_tell_66 : decode cX12_tell 66 = .ok (.iconst 2, 1) := by decide +kernel
theorem dX12_tell_67 : decode cX12_tell 67 = .ok (.iadd, 1) := by decide +kernel
theorem dX12_tell_68 : decode cX12_tell 68 = .ok (.iload 4, 2) := by decide +kernel
theorem dX12_tell_70 : decode cX12_tell 70 = .ok (.iastore, 1) := by decide +kernel
theorem dX12_tell_71 : decode cX12_tell 71 = .ok (.aload_n 0, 1) := by decide +kernel
theorem dX12_tell_72 : decode cX12_tell 72 = .ok (.getfield 8, 3) := by decide +kernel
theorem dX12_tell_75 : decode cX12_tell 75 = .ok (.iload_n 1, 1) := by decide +kernel
theorem dX12_tell_76 : decode cX12_tell 76 = .ok (.sipush 890, 3) := by decide +kernel
theorem dX12_tell_79 : decode cX12_tell 79 = .ok (.iadd, 1) := by decide +kernel
theorem dX12_tell_80 : decode cX12_tell 80 = .ok (.iconst 4, 1) := by decide +kernel
theorem dX12_tell_81 : decode cX12_tell 81 = .ok (.iload 6, 2) := by decide +kernel
theorem dX12_tell_83 : decode cX12_tell 83 = .ok (.imul, 1) := by decide +kernel
theorem dX12_tell_84 : decode cX12_tell 84 = .ok (.iadd, 1) := by decide +kernel
theorem dX12_tell_85 : decode cX12_tell 85 = .ok (.iconst 3, 1) := by decide +kernel
theorem dX12_tell_86 : decode cX12_tell 86 = .ok (.iadd, 1) := by decide +kernel
theorem dX12_tell_87 : decode cX12_tell 87 = .ok (.iload 5, 2) := by decide +kernel
theorem dX12_tell_89 : decode cX12_tell 89 = .ok (.iastore, 1) := by decide +kernel
theorem dX12_tell_90 : decode cX12_tell 90 = .ok (.aload_n 0, 1) := by decide +kernel
theorem dX12_tell_91 : decode cX12_tell 91 = .ok (.getfield 8, 3) := by decide +kernel
theorem dX12_tell_94 : decode cX12_tell 94 = .ok (.iload_n 1, 1) := by decide +kernel
theorem dX12_tell_95 : decode cX12_tell 95 = .ok (.bipush 44, 2) := by decide +kernel
theorem dX12_tell_97 : decode cX12_tell 97 = .ok (.iadd, 1) := by decide +kernel
theorem dX12_tell_98 : decode cX12_tell 98 = .ok (.dup2, 1) := by decide +kernel
theorem dX12_tell_99 : decode cX12_tell 99 = .ok (.iaload, 1) := by decide +kernel
theorem dX12_tell_100 : decode cX12_tell 100 = .ok (.iconst 1, 1) := by decide +kernel
theorem dX12_tell_101 : decode cX12_tell 101 = .ok (.iadd, 1) := by decide +kernel
theorem dX12_tell_102 : decode cX12_tell 102 = .ok (.iastore, 1) := by decide +kernel
theorem dX12_tell_103 : decode cX12_tell 103 = .ok (.return_, 1) := by decide +kernel
theorem dX12_game_0 : decode cX12_game 0 = .ok (.iload_n 1, 1) := by decide +kernel
theorem dX12_game_1 : decode cX12_game 1 = .ok (.iconst 0, 1) := by decide +kernel
theorem dX12_game_2 : decode cX12_game 2 = .ok (.iconst 5, 1) := by decide +kernel
theorem dX12_game_3 : decode cX12_game 3 = .ok (.invokestatic 91, 3) := by decide +kernel
theorem dX12_game_6 : decode cX12_game 6 = .ok (.ifCond .eq 25, 3) := by decide +kernel
theorem dX12_game_9 : decode cX12_game 9 = .ok (.iload_n 2, 1) := by decide +kernel
theorem dX12_game_10 : decode cX12_game 10 = .ok (.iconst 4, 1) := by decide +kernel
theorem dX12_game_11 : decode cX12_game 11 = .ok (.if_icmp .ne 23, 3) := by decide +kernel
theorem dX12_game_14 : decode cX12_game 14 = .ok (.aload_n 0, 1) := by decide +kernel
theorem dX12_game_15 : decode cX12_game 15 = .ok (.iload_n 3, 1) := by decide +kernel
theorem dX12_game_16 : decode cX12_game 16 = .ok (.invokevirtual 99, 3) := by decide +kernel
theorem dX12_game_19 : decode cX12_game 19 = .ok (.ifCond .eq 12, 3) := by decide +kernel
theorem dX12_game_22 : decode cX12_game 22 = .ok (.aload_n 0, 1) := by decide +kernel
theorem dX12_game_23 : decode cX12_game 23 = .ok (.iload 4, 2) := by decide +kernel
theorem dX12_game_25 : decode cX12_game 25 = .ok (.invokevirtual 99, 3) := by decide +kernel
theorem dX12_game_28 : decode cX12_game 28 = .ok (.ifCond .ne 6, 3) := by decide +kernel
theorem dX12_game_31 : decode cX12_game 31 = .ok (.bipush (-2), 2) := by decide +kernel
theorem dX12_game_33 : decode cX12_game 33 = .ok (.ireturn, 1) := by decide +kernel
theorem dX12_game_34 : decode cX12_game 34 = .ok (.iload_n 2, 1) := by decide +kernel
theorem dX12_game_35 : decode cX12_game 35 = .ok (.iconst 0, 1) := by decide +kernel
theorem dX12_game_36 : decode cX12_game 36 = .ok (.iconst 4, 1) := by decide +kernel
theorem dX12_game_37 : decode cX12_game 37 = .ok (.invokestatic 91, 3) := by decide +kernel
theorem dX12_game_40 : decode cX12_game 40 = .ok (.ifCond .ne 6, 3) := by decide +kernel
theorem dX12_game_43 : decode cX12_game 43 = .ok (.bipush (-3), 2) := by decide +kernel
theorem dX12_game_45 : decode cX12_game 45 = .ok (.ireturn, 1) := by decide +kernel
theorem dX12_game_46 : decode cX12_game 46 = .ok (.iload_n 2, 1) := by decide +kernel
theorem dX12_game_47 : decode cX12_game 47 = .ok (.iconst 4, 1) := by decide +kernel
theorem dX12_game_48 : decode cX12_game 48 = .ok (.if_icmp .ne 27, 3) := by decide +kernel
theorem dX12_game_51 : decode cX12_game 51 = .ok (.aload_n 0, 1) := by decide +kernel
theorem dX12_game_52 : decode cX12_game 52 = .ok (.getfield 21, 3) := by decide +kernel
theorem dX12_game_55 : decode cX12_game 55 = .ok (.iload_n 3, 1) := by decide +kernel
theorem dX12_game_56 : decode cX12_game 56 = .ok (.iaload, 1) := by decide +kernel
theorem dX12_game_57 : decode cX12_game 57 = .ok (.iconst 4, 1) := by decide +kernel
theorem dX12_game_58 : decode cX12_game 58 = .ok (.if_icmp .eq 14, 3) := by decide +kernel
theorem dX12_game_61 : decode cX12_game 61 = .ok (.aload_n 0, 1) := by decide +kernel
theorem dX12_game_62 : decode cX12_game 62 = .ok (.getfield 21, 3) := by decide +kernel
theorem dX12_game_65 : decode cX12_game 65 = .ok (.iload 4, 2) := by decide +kernel
theorem dX12_game_67 : decode cX12_game 67 = .ok (.iaload, 1) := by decide +kernel
theorem dX12_game_68 : decode cX12_game 68 = .ok (.iconst 4, 1) := by decide +kernel
theorem dX12_game_69 : decode cX12_game 69 = .ok (.if_icmp .ne 6, 3) := by decide +kernel
theorem dX12_game_72 : decode cX12_game 72 = .ok (.bipush (-4), 2) := by decide +kernel
theorem dX12_game_74 : decode cX12_game 74 = .ok (.ireturn, 1) := by decide +kernel
theorem dX12_game_75 : decode cX12_game 75 = .ok (.iload_n 2, 1) := by decide +kernel
theorem dX12_game_76 : decode cX12_game 76 = .ok (.iconst 4, 1) := by decide +kernel
theorem dX12_game_77 : decode cX12_game 77 = .ok (.if_icmp .ne 12, 3) := by decide +kernel
theorem dX12_game_80 : decode cX12_game 80 = .ok (.aload_n 0, 1) := by decide +kernel
theorem dX12_game_81 : decode cX12_game 81 = .ok (.getfield 21, 3) := by decide +kernel
theorem dX12_game_84 : decode cX12_game 84 = .ok (.iload_n 3, 1) := by decide +kernel
theorem dX12_game_85 : decode cX12_game 85 = .ok (.iaload, 1) := by decide +kernel
theorem dX12_game_86 : decode cX12_game 86 = .ok (.goto 4, 3) := by decide +kernel
theorem dX12_game_89 : decode cX12_game 89 = .ok (.iload_n 2, 1) := by decide +kernel
theorem dX12_game_90 : decode cX12_game 90 = .ok (.istore 5, 2) := by decide +kernel
theorem dX12_game_92 : decode cX12_game 92 = .ok (.iload_n 2, 1) := by decide +kernel
theorem dX12_game_93 : decode cX12_game 93 = .ok (.iconst 4, 1) := by decide +kernel
theorem dX12_game_94 : decode cX12_game 94 = .ok (.if_icmp .ne 13, 3) := by decide +kernel
theorem dX12_game_97 : decode cX12_game 97 = .ok (.aload_n 0, 1) := by decide +kernel
theorem dX12_game_98 : decode cX12_game 98 = .ok (.getfield 21, 3) := by decide +kernel
theorem dX12_game_101 : decode cX12_game 101 = .ok (.iload 4, 2) := by decide +kernel
theorem dX12_game_103 : decode cX12_game 103 = .ok (.iaload, 1) := by decide +kernel
theorem dX12_game_104 : decode cX12_game 104 = .ok (.goto 4, 3) := by decide +kernel
theorem dX12_game_107 : decode cX12_game 107 = .ok (.iload_n 2, 1) := by decide +kernel
theorem dX12_game_108 : decode cX12_game 108 = .ok (.istore 6, 2) := by decide +kernel
theorem dX12_game_110 : decode cX12_game 110 = .ok (.aload_n 0, 1) := by decide +kernel
theorem dX12_game_111 : decode cX12_game 111 = .ok (.getfield 21, 3) := by decide +kernel
theorem dX12_game_114 : decode cX12_game 114 = .ok (.iload_n 1, 1) := by decide +kernel
theorem dX12_game_115 : decode cX12_game 115 = .ok (.iload_n 2, 1) := by decide +kernel
theorem dX12_game_116 : decode cX12_game 116 = .ok (.iastore, 1) := by decide +kernel
theorem dX12_game_117 : decode cX12_game 117 = .ok (.aload_n 0, 1) := by decide +kernel
theorem dX12_game_118 : decode cX12_game 118 = .ok (.getfield 24, 3) := by decide +kernel
theorem dX12_game_121 : decode cX12_game 121 = .ok (.iload_n 1, 1) := by decide +kernel
theorem dX12_game_122 : decode cX12_game 122 = .ok (.iload 5, 2) := by decide +kernel
theorem dX12_game_124 : decode cX12_game 124 = .ok (.iastore, 1) := by decide +kernel
theorem dX12_game_125 : decode cX12_game 125 = .ok (.aload_n 0, 1) := by decide +kernel
theorem dX12_game_126 : decode cX12_game 126 = .ok (.getfield 27, 3) := by decide +kernel
theorem dX12_game_129 : decode cX12_game 129 = .ok (.iload_n 1, 1) := by decide +kernel
theorem dX12_game_130 : decode cX12_game 130 = .ok (.iload 6, 2) := by decide +kernel
theorem dX12_game_132 : decode cX12_game 132 = .ok (.iastore, 1) := by decide +kernel
theorem dX12_game_133 : decode cX12_game 133 = .ok (.iconst 1, 1) := by decide +kernel
theorem dX12_game_134 : decode cX12_game 134 = .ok (.ireturn, 1) := by decide +kernel
theorem dX12_isGame_0 : decode cX12_isGame 0 = .ok (.iload_n 1, 1) := by decide +kernel
theorem dX12_isGame_1 : decode cX12_isGame 1 = .ok (.iconst 0, 1) := by decide +kernel
theorem dX12_isGame_2 : decode cX12_isGame 2 = .ok (.iconst 5, 1) := by decide +kernel
theorem dX12_isGame_3 : decode cX12_isGame 3 = .ok (.invokestatic 91, 3) := by decide +kernel
theorem dX12_isGame_6 : decode cX12_isGame 6 = .ok (.ifCond .eq 17, 3) := by decide +kernel
theorem dX12_isGame_9 : decode cX12_isGame 9 = .ok (.aload_n 0, 1) := by decide +kernel
theorem dX12_isGame_10 : decode cX12_isGame 10 = .ok (.getfield 21, 3) := by decide +kernel
theorem dX12_isGame_13 : decode cX12_isGame 13 = .ok (.iload_n 1, 1) := by decide +kernel
theorem dX12_isGame_14 : decode cX12_isGame 14 = .ok (.iaload, 1) := by decide +kernel
theorem dX12_isGame_15 : decode cX12_isGame 15 = .ok (.iconst (-1), 1) := by decide +kernel
theorem dX12_isGame_16 : decode cX12_isGame 16 = .ok (.if_icmp .eq 7, 3) := by decide +kernel
theorem dX12_isGame_19 : decode cX12_isGame 19 = .ok (.iconst 1, 1) := by decide +kernel
theorem dX12_isGame_20 : decode cX12_isGame 20 = .ok (.goto 4, 3) := by decide +kernel
theorem dX12_isGame_23 : decode cX12_isGame 23 = .ok (.iconst 0, 1) := by decide +kernel
theorem dX12_isGame_24 : decode cX12_isGame 24 = .ok (.ireturn, 1) := by decide +kernel
theorem dX12_kindOf_0 : decode cX12_kindOf 0 = .ok (.aload_n 0, 1) := by decide +kernel
theorem dX12_kindOf_1 : decode cX12_kindOf 1 = .ok (.iload_n 1, 1) := by decide +kernel
theorem dX12_kindOf_2 : decode cX12_kindOf 2 = .ok (.invokevirtual 99, 3) := by decide +kernel
theorem dX12_kindOf_5 : decode cX12_kindOf 5 = .ok (.ifCond .eq 12, 3) := by decide +kernel
theorem dX12_kindOf_8 : decode cX12_kindOf 8 = .ok (.aload_n 0, 1) := by decide +kernel
theorem dX12_kindOf_9 : decode cX12_kindOf 9 = .ok (.getfield 21, 3) := by decide +kernel
theorem dX12_kindOf_12 : decode cX12_kindOf 12 = .ok (.iload_n 1, 1) := by decide +kernel
theorem dX12_kindOf_13 : decode cX12_kindOf 13 = .ok (.iaload, 1) := by decide +kernel
theorem dX12_kindOf_14 : decode cX12_kindOf 14 = .ok (.goto 5, 3) := by decide +kernel
theorem dX12_kindOf_17 : decode cX12_kindOf 17 = .ok (.bipush (-2), 2) := by decide +kernel
theorem dX12_kindOf_19 : decode cX12_kindOf 19 = .ok (.ireturn, 1) := by decide +kernel
theorem dX12_table_0 : decode cX12_table 0 = .ok (.iload_n 1, 1) := by decide +kernel
theorem dX12_table_1 : decode cX12_table 1 = .ok (.iconst 0, 1) := by decide +kernel
theorem dX12_table_2 : decode cX12_table 2 = .ok (.iconst 3, 1) := by decide +kernel
theorem dX12_table_3 : decode cX12_table 3 = .ok (.invokestatic 91, 3) := by decide +kernel
theorem dX12_table_6 : decode cX12_table 6 = .ok (.ifCond .eq 11, 3) := by decide +kernel
theorem dX12_table_9 : decode cX12_table 9 = .ok (.aload_n 0, 1) := by decide +kernel
theorem dX12_table_10 : decode cX12_table 10 = .ok (.iload_n 3, 1) := by decide +kernel
theorem dX12_table_11 : decode cX12_table 11 = .ok (.invokevirtual 99, 3) := by decide +kernel
theorem dX12_table_14 : decode cX12_table 14 = .ok (.ifCond .ne 6, 3) := by decide +kernel
theorem dX12_table_17 : decode cX12_table 17 = .ok (.bipush (-2), 2) := by decide +kernel
theorem dX12_table_19 : decode cX12_table 19 = .ok (.ireturn, 1) := by decide +kernel
theorem dX12_table_20 : decode cX12_table 20 = .ok (.iload_n 2, 1) := by decide +kernel
theorem dX12_table_21 : decode cX12_table 21 = .ok (.iconst 4, 1) := by decide +kernel
theorem dX12_table_22 : decode cX12_table 22 = .ok (.bipush 60, 2) := by decide +kernel
theorem dX12_table_24 : decode cX12_table 24 = .ok (.invokestatic 91, 3) := by decide +kernel
theorem dX12_table_27 : decode cX12_table 27 = .ok (.ifCond .eq 9, 3) := by decide +kernel
theorem dX12_table_30 : decode cX12_table 30 = .ok (.iload_n 2, 1) := by decide +kernel
theorem dX12_table_31 : decode cX12_table 31 = .ok (.iconst 4, 1) := by decide +kernel
theorem dX12_table_32 : decode cX12_table 32 = .ok (.irem, 1) := by decide +kernel
theorem dX12_table_33 : decode cX12_table 33 = .ok (.ifCond .eq 6, 3) := by decide +kernel
theorem dX12_table_36 : decode cX12_table 36 = .ok (.bipush (-3), 2) := by decide +kernel
theorem dX12_table_38 : decode cX12_table 38 = .ok (.ireturn, 1) := by decide +kernel
theorem dX12_table_39 : decode cX12_table 39 = .ok (.aload_n 0, 1) := by decide +kernel
theorem dX12_table_40 : decode cX12_table 40 = .ok (.getfield 14, 3) := by decide +kernel
theorem dX12_table_43 : decode cX12_table 43 = .ok (.iload_n 1, 1) := by decide +kernel
theorem dX12_table_44 : decode cX12_table 44 = .ok (.iconst 1, 1) := by decide +kernel
theorem dX12_table_45 : decode cX12_table 45 = .ok (.bastore, 1) := by decide +kernel
theorem dX12_table_46 : decode cX12_table 46 = .ok (.aload_n 0, 1) := by decide +kernel
theorem dX12_table_47 : decode cX12_table 47 = .ok (.getfield 18, 3) := by decide +kernel
theorem dX12_table_50 : decode cX12_table 50 = .ok (.iload_n 1, 1) := by decide +kernel
theorem dX12_table_51 : decode cX12_table 51 = .ok (.iconst 0, 1) := by decide +kernel
theorem dX12_table_52 : decode cX12_table 52 = .ok (.iastore, 1) := by decide +kernel
theorem dX12_table_53 : decode cX12_table 53 = .ok (.aload_n 0, 1) := by decide +kernel
theorem dX12_table_54 : decode cX12_table 54 = .ok (.iconst (-1), 1) := by decide +kernel
theorem dX12_table_55 : decode cX12_table 55 = .ok (.putfield 56, 3) := by decide +kernel
theorem dX12_table_58 : decode cX12_table 58 = .ok (.sipush 1290, 3) := by decide +kernel
theorem dX12_table_61 : decode cX12_table 61 = .ok (.iload_n 1, 1) := by decide +kernel
theorem dX12_table_62 : decode cX12_table 62 = .ok (.imul, 1) := by decide +kernel
theorem dX12_table_63 : decode cX12_table 63 = .ok (.istore 4, 2) := by decide +kernel
theorem dX12_table_65 : decode cX12_table 65 = .ok (.iconst 0, 1) := by decide +kernel
theorem dX12_table_66 : decode cX12_table 66 = .ok (.istore 5, 2) := by decide +kernel
theorem dX12_table_68 : decode cX12_table 68 = .ok (.iload 5, 2) := by decide +kernel
theorem dX12_table_70 : decode cX12_table 70 = .ok (.sipush 1290, 3) := by decide +kernel
theorem dX12_table_73 : decode cX12_table 73 = .ok (.if_icmp .ge 20, 3) := by decide +kernel
theorem dX12_table_76 : decode cX12_table 76 = .ok (.aload_n 0, 1) := by decide +kernel
theorem dX12_table_77 : decode cX12_table 77 = .ok (.getfield 8, 3) := by decide +kernel
theorem dX12_table_80 : decode cX12_table 80 = .ok (.iload 4, 2) := by decide +kernel
theorem dX12_table_82 : decode cX12_table 82 = .ok (.iload 5, 2) := by decide +kernel
theorem dX12_table_84 : decode cX12_table 84 = .ok (.iadd, 1) := by decide +kernel
theorem dX12_table_85 : decode cX12_table 85 = .ok (.iconst 0, 1) := by decide +kernel
theorem dX12_table_86 : decode cX12_table 86 = .ok (.iastore, 1) := by decide +kernel
theorem dX12_table_87 : decode cX12_table 87 = .ok (.iinc 5 1, 3) := by decide +kernel
theorem dX12_table_90 : decode cX12_table 90 = .ok (.goto (-22), 3) := by decide +kernel
theorem dX12_table_93 : decode cX12_table 93 = .ok (.aload_n 0, 1) := by decide +kernel
theorem dX12_table_94 : decode cX12_table 94 = .ok (.getfield 8, 3) := by decide +kernel
theorem dX12_table_97 : decode cX12_table 97 = .ok (.iload 4, 2) := by decide +kernel
theorem dX12_table_99 : decode cX12_table 99 = .ok (.iconst 1, 1) := by decide +kernel
theorem dX12_table_100 : decode cX12_table 100 = .ok (.iadd, 1) := by decide +kernel
theorem dX12_table_101 : decode cX12_table 101 = .ok (.iload_n 2, 1) := by decide +kernel
theorem dX12_table_102 : decode cX12_table 102 = .ok (.iastore, 1) := by decide +kernel
theorem dX12_table_103 : decode cX12_table 103 = .ok (.aload_n 0, 1) := by decide +kernel
theorem dX12_table_104 : decode cX12_table 104 = .ok (.getfield 8, 3) := by decide +kernel
theorem dX12_table_107 : decode cX12_table 107 = .ok (.iload 4, 2) := by decide +kernel
theorem dX12_table_109 : decode cX12_table 109 = .ok (.iconst 2, 1) := by decide +kernel
theorem dX12_table_110 : decode cX12_table 110 = .ok (.iadd, 1) := by decide +kernel
theorem dX12_table_111 : decode cX12_table 111 = .ok (.aload_n 0, 1) := by decide +kernel
theorem dX12_table_112 : decode cX12_table 112 = .ok (.getfield 21, 3) := by decide +kernel
theorem dX12_table_115 : decode cX12_table 115 = .ok (.iload_n 3, 1) := by decide +kernel
theorem dX12_table_116 : decode cX12_table 116 = .ok (.iaload, 1) := by decide +kernel
theorem dX12_table_117 : decode cX12_table 117 = .ok (.iastore, 1) := by decide +kernel
theorem dX12_table_118 : decode cX12_table 118 = .ok (.aload_n 0, 1) := by decide +kernel
theorem dX12_table_119 : decode cX12_table 119 = .ok (.getfield 8, 3) := by decide +kernel
theorem dX12_table_122 : decode cX12_table 122 = .ok (.iload 4, 2) := by decide +kernel
theorem dX12_table_124 : decode cX12_table 124 = .ok (.iconst 3, 1) := by decide +kernel
theorem dX12_table_125 : decode cX12_table 125 = .ok (.iadd, 1) := by decide +kernel
theorem dX12_table_126 : decode cX12_table 126 = .ok (.aload_n 0, 1) := by decide +kernel
theorem dX12_table_127 : decode cX12_table 127 = .ok (.getfield 24, 3) := by decide +kernel
theorem dX12_table_130 : decode cX12_table 130 = .ok (.iload_n 3, 1) := by decide +kernel
theorem dX12_table_131 : decode cX12_table 131 = .ok (.iaload, 1) := by decide +kernel
theorem dX12_table_132 : decode cX12_table 132 = .ok (.iastore, 1) := by decide +kernel
theorem dX12_table_133 : decode cX12_table 133 = .ok (.aload_n 0, 1) := by decide +kernel
theorem dX12_table_134 : decode cX12_table 134 = .ok (.getfield 8, 3) := by decide +kernel
theorem dX12_table_137 : decode cX12_table 137 = .ok (.iload 4, 2) := by decide +kernel
theorem dX12_table_139 : decode cX12_table 139 = .ok (.iconst 4, 1) := by decide +kernel
theorem dX12_table_140 : decode cX12_table 140 = .ok (.iadd, 1) := by decide +kernel
theorem dX12_table_141 : decode cX12_table 141 = .ok (.aload_n 0, 1) := by decide +kernel
theorem dX12_table_142 : decode cX12_table 142 = .ok (.getfield 27, 3) := by decide +kernel
theorem dX12_table_145 : decode cX12_table 145 = .ok (.iload_n 3, 1) := by decide +kernel
theorem dX12_table_146 : decode cX12_table 146 = .ok (.iaload, 1) := by decide +kernel
theorem dX12_table_147 : decode cX12_table 147 = .ok (.iastore, 1) := by decide +kernel
theorem dX12_table_148 : decode cX12_table 148 = .ok (.aload_n 0, 1) := by decide +kernel
theorem dX12_table_149 : decode cX12_table 149 = .ok (.getfield 8, 3) := by decide +kernel
theorem dX12_table_152 : decode cX12_table 152 = .ok (.iload 4, 2) := by decide +kernel
theorem dX12_table_154 : decode cX12_table 154 = .ok (.bipush 7, 2) := by decide +kernel
theorem dX12_table_156 : decode cX12_table 156 = .ok (.iadd, 1) := by decide +kernel
theorem dX12_table_157 : decode cX12_table 157 = .ok (.sipush 200, 3) := by decide +kernel
theorem dX12_table_160 : decode cX12_table 160 = .ok (.iastore, 1) := by decide +kernel
theorem dX12_table_161 : decode cX12_table 161 = .ok (.aload_n 0, 1) := by decide +kernel
theorem dX12_table_162 : decode cX12_table 162 = .ok (.getfield 8, 3) := by decide +kernel
theorem dX12_table_165 : decode cX12_table 165 = .ok (.iload 4, 2) := by decide +kernel
theorem dX12_table_167 : decode cX12_table 167 = .ok (.bipush 9, 2) := by decide +kernel
theorem dX12_table_169 : decode cX12_table 169 = .ok (.iadd, 1) := by decide +kernel
theorem dX12_table_170 : decode cX12_table 170 = .ok (.iconst (-1), 1) := by decide +kernel
theorem dX12_table_171 : decode cX12_table 171 = .ok (.iastore, 1) := by decide +kernel
theorem dX12_table_172 : decode cX12_table 172 = .ok (.aload_n 0, 1) := by decide +kernel
theorem dX12_table_173 : decode cX12_table 173 = .ok (.getfield 8, 3) := by decide +kernel
theorem dX12_table_176 : decode cX12_table 176 = .ok (.iload 4, 2) := by decide +kernel
theorem dX12_table_178 : decode cX12_table 178 = .ok (.bipush 19, 2) := by decide +kernel
theorem dX12_table_180 : decode cX12_table 180 = .ok (.iadd, 1) := by decide +kernel
theorem dX12_table_181 : decode cX12_table 181 = .ok (.iconst (-1), 1) := by decide +kernel
theorem dX12_table_182 : decode cX12_table 182 = .ok (.iastore, 1) := by decide +kernel
theorem dX12_table_183 : decode cX12_table 183 = .ok (.iconst 0, 1) := by decide +kernel
theorem dX12_table_184 : decode cX12_table 184 = .ok (.istore 5, 2) := by decide +kernel
theorem dX12_table_186 : decode cX12_table 186 = .ok (.iload 5, 2) := by decide +kernel
theorem dX12_table_188 : decode cX12_table 188 = .ok (.iconst 4, 1) := by decide +kernel
theorem dX12_table_189 : decode cX12_table 189 = .ok (.if_icmp .ge 23, 3) := by decide +kernel
theorem dX12_table_192 : decode cX12_table 192 = .ok (.aload_n 0, 1) := by decide +kernel
theorem dX12_table_193 : decode cX12_table 193 = .ok (.getfield 8, 3) := by decide +kernel
theorem dX12_table_196 : decode cX12_table 196 = .ok (.iload 4, 2) := by decide +kernel
theorem dX12_table_198 : decode cX12_table 198 = .ok (.bipush 35, 2) := by decide +kernel
theorem dX12_table_200 : decode cX12_table 200 = .ok (.iadd, 1) := by decide +kernel
theorem dX12_table_201 : decode cX12_table 201 = .ok (.iload 5, 2) := by decide +kernel
theorem dX12_table_203 : decode cX12_table 203 = .ok (.iadd, 1) := by decide +kernel
theorem dX12_table_204 : decode cX12_table 204 = .ok (.iconst 1, 1) := by decide +kernel
theorem dX12_table_205 : decode cX12_table 205 = .ok (.iastore, 1) := by decide +kernel
theorem dX12_table_206 : decode cX12_table 206 = .ok (.iinc 5 1, 3) := by decide +kernel
theorem dX12_table_209 : decode cX12_table 209 = .ok (.goto (-23), 3) := by decide +kernel
theorem dX12_table_212 : decode cX12_table 212 = .ok (.aload_n 0, 1) := by decide +kernel
theorem dX12_table_213 : decode cX12_table 213 = .ok (.iload 4, 2) := by decide +kernel
theorem dX12_table_215 : decode cX12_table 215 = .ok (.invokevirtual 103, 3) := by decide +kernel
theorem dX12_table_218 : decode cX12_table 218 = .ok (.iconst 1, 1) := by decide +kernel
theorem dX12_table_219 : decode cX12_table 219 = .ok (.ireturn, 1) := by decide +kernel
theorem dX12_begin_0 : decode cX12_begin 0 = .ok (.aload_n 0, 1) := by decide +kernel
theorem dX12_begin_1 : decode cX12_begin 1 = .ok (.getfield 8, 3) := by decide +kernel
theorem dX12_begin_4 : decode cX12_begin 4 = .ok (.iload_n 1, 1) := by decide +kernel
theorem dX12_begin_5 : decode cX12_begin 5 = .ok (.bipush 10, 2) := by decide +kernel
theorem dX12_begin_7 : decode cX12_begin 7 = .ok (.iadd, 1) := by decide +kernel
theorem dX12_begin_8 : decode cX12_begin 8 = .ok (.iconst 0, 1) := by decide +kernel
theorem dX12_begin_9 : decode cX12_begin 9 = .ok (.iastore, 1) := by decide +kernel
theorem dX12_begin_10 : decode cX12_begin 10 = .ok (.aload_n 0, 1) := by decide +kernel
theorem dX12_begin_11 : decode cX12_begin 11 = .ok (.getfield 8, 3) := by decide +kernel
theorem dX12_begin_14 : decode cX12_begin 14 = .ok (.iload_n 1, 1) := by decide +kernel
theorem dX12_begin_15 : decode cX12_begin 15 = .ok (.bipush 11, 2) := by decide +kernel
theorem dX12_begin_17 : decode cX12_begin 17 = .ok (.iadd, 1) := by decide +kernel
theorem dX12_begin_18 : decode cX12_begin 18 = .ok (.iconst (-1), 1) := by decide +kernel
theorem dX12_begin_19 : decode cX12_begin 19 = .ok (.iastore, 1) := by decide +kernel
theorem dX12_begin_20 : decode cX12_begin 20 = .ok (.aload_n 0, 1) := by decide +kernel
theorem dX12_begin_21 : decode cX12_begin 21 = .ok (.getfield 8, 3) := by decide +kernel
theorem dX12_begin_24 : decode cX12_begin 24 = .ok (.iload_n 1, 1) := by decide +kernel
theorem dX12_begin_25 : decode cX12_begin 25 = .ok (.bipush 12, 2) := by decide +kernel
theorem dX12_begin_27 : decode cX12_begin 27 = .ok (.iadd, 1) := by decide +kernel
theorem dX12_begin_28 : decode cX12_begin 28 = .ok (.iconst (-1), 1) := by decide +kernel
theorem dX12_begin_29 : decode cX12_begin 29 = .ok (.iastore, 1) := by decide +kernel
theorem dX12_begin_30 : decode cX12_begin 30 = .ok (.aload_n 0, 1) := by decide +kernel
theorem dX12_begin_31 : decode cX12_begin 31 = .ok (.getfield 8, 3) := by decide +kernel
theorem dX12_begin_34 : decode cX12_begin 34 = .ok (.iload_n 1, 1) := by decide +kernel
theorem dX12_begin_35 : decode cX12_begin 35 = .ok (.bipush 13, 2) := by decide +kernel
theorem dX12_begin_37 : decode cX12_begin 37 = .ok (.iadd, 1) := by decide +kernel
theorem dX12_begin_38 : decode cX12_begin 38 = .ok (.iconst 0, 1) := by decide +kernel
theorem dX12_begin_39 : decode cX12_begin 39 = .ok (.iastore, 1) := by decide +kernel
theorem dX12_begin_40 : decode cX12_begin 40 = .ok (.aload_n 0, 1) := by decide +kernel
theorem dX12_begin_41 : decode cX12_begin 41 = .ok (.getfield 8, 3) := by decide +kernel
theorem dX12_begin_44 : decode cX12_begin 44 = .ok (.iload_n 1, 1) := by decide +kernel
theorem dX12_begin_45 : decode cX12_begin 45 = .ok (.bipush 14, 2) := by decide +kernel
theorem dX12_begin_47 : decode cX12_begin 47 = .ok (.iadd, 1) := by decide +kernel
theorem dX12_begin_48 : decode cX12_begin 48 = .ok (.iconst 0, 1) := by decide +kernel
theorem dX12_begin_49 : decode cX12_begin 49 = .ok (.iastore, 1) := by decide +kernel
theorem dX12_begin_50 : decode cX12_begin 50 = .ok (.aload_n 0, 1) := by decide +kernel
theorem dX12_begin_51 : decode cX12_begin 51 = .ok (.getfield 8, 3) := by decide +kernel
theorem dX12_begin_54 : decode cX12_begin 54 = .ok (.iload_n 1, 1) := by decide +kernel
theorem dX12_begin_55 : decode cX12_begin 55 = .ok (.bipush 19, 2) := by decide +kernel
theorem dX12_begin_57 : decode cX12_begin 57 = .ok (.iadd, 1) := by decide +kernel
theorem dX12_begin_58 : decode cX12_begin 58 = .ok (.iconst (-1), 1) := by decide +kernel
theorem dX12_begin_59 : decode cX12_begin 59 = .ok (.iastore, 1) := by decide +kernel
theorem dX12_begin_60 : decode cX12_begin 60 = .ok (.aload_n 0, 1) := by decide +kernel
theorem dX12_begin_61 : decode cX12_begin 61 = .ok (.getfield 8, 3) := by decide +kernel
theorem dX12_begin_64 : decode cX12_begin 64 = .ok (.iload_n 1, 1) := by decide +kernel
theorem dX12_begin_65 : decode cX12_begin 65 = .ok (.bipush 20, 2) := by decide +kernel
theorem dX12_begin_67 : decode cX12_begin 67 = .ok (.iadd, 1) := by decide +kernel
theorem dX12_begin_68 : decode cX12_begin 68 = .ok (.iconst 0, 1) := by decide +kernel
theorem dX12_begin_69 : decode cX12_begin 69 = .ok (.iastore, 1) := by decide +kernel
theorem dX12_begin_70 : decode cX12_begin 70 = .ok (.aload_n 0, 1) := by decide +kernel
theorem dX12_begin_71 : decode cX12_begin 71 = .ok (.getfield 8, 3) := by decide +kernel
theorem dX12_begin_74 : decode cX12_begin 74 = .ok (.iload_n 1, 1) := by decide +kernel
theorem dX12_begin_75 : decode cX12_begin 75 = .ok (.bipush 26, 2) := by decide +kernel
theorem dX12_begin_77 : decode cX12_begin 77 = .ok (.iadd, 1) := by decide +kernel
theorem dX12_begin_78 : decode cX12_begin 78 = .ok (.iconst 0, 1) := by decide +kernel
theorem dX12_begin_79 : decode cX12_begin 79 = .ok (.iastore, 1) := by decide +kernel
theorem dX12_begin_80 : decode cX12_begin 80 = .ok (.aload_n 0, 1) := by decide +kernel
theorem dX12_begin_81 : decode cX12_begin 81 = .ok (.getfield 8, 3) := by decide +kernel
theorem dX12_begin_84 : decode cX12_begin 84 = .ok (.iload_n 1, 1) := by decide +kernel
theorem dX12_begin_85 : decode cX12_begin 85 = .ok (.bipush 43, 2) := by decide +kernel
theorem dX12_begin_87 : decode cX12_begin 87 = .ok (.iadd, 1) := by decide +kernel
theorem dX12_begin_88 : decode cX12_begin 88 = .ok (.iconst 0, 1) := by decide +kernel
theorem dX12_begin_89 : decode cX12_begin 89 = .ok (.iastore, 1) := by decide +kernel
theorem dX12_begin_90 : decode cX12_begin 90 = .ok (.aload_n 0, 1) := by decide +kernel
theorem dX12_begin_91 : decode cX12_begin 91 = .ok (.getfield 8, 3) := by decide +kernel
theorem dX12_begin_94 : decode cX12_begin 94 = .ok (.iload_n 1, 1) := by decide +kernel
theorem dX12_begin_95 : decode cX12_begin 95 = .ok (.bipush 44, 2) := by decide +kernel
theorem dX12_begin_97 : decode cX12_begin 97 = .ok (.iadd, 1) := by decide +kernel
theorem dX12_begin_98 : decode cX12_begin 98 = .ok (.iconst 0, 1) := by decide +kernel
theorem dX12_begin_99 : decode cX12_begin 99 = .ok (.iastore, 1) := by decide +kernel
theorem dX12_begin_100 : decode cX12_begin 100 = .ok (.iconst 0, 1) := by decide +kernel
theorem dX12_begin_101 : decode cX12_begin 101 = .ok (.istore_n 2, 1) := by decide +kernel
theorem dX12_begin_102 : decode cX12_begin 102 = .ok (.iload_n 2, 1) := by decide +kernel
theorem dX12_begin_103 : decode cX12_begin 103 = .ok (.iconst 2, 1) := by decide +kernel
theorem dX12_begin_104 : decode cX12_begin 104 = .ok (.if_icmp .ge 33, 3) := by decide +kernel
theorem dX12_begin_107 : decode cX12_begin 107 = .ok (.aload_n 0, 1) := by decide +kernel
theorem dX12_begin_108 : decode cX12_begin 108 = .ok (.getfield 8, 3) := by decide +kernel
theorem dX12_begin_111 : decode cX12_begin 111 = .ok (.iload_n 1, 1) := by decide +kernel
theorem dX12_begin_112 : decode cX12_begin 112 = .ok (.bipush 15, 2) := by decide +kernel
theorem dX12_begin_114 : decode cX12_begin 114 = .ok (.iadd, 1) := by decide +kernel
theorem dX12_begin_115 : decode cX12_begin 115 = .ok (.iload_n 2, 1) := by decide +kernel
theorem dX12_begin_116 : decode cX12_begin 116 = .ok (.iadd, 1) := by decide +kernel
theorem dX12_begin_117 : decode cX12_begin 117 = .ok (.iconst 0, 1) := by decide +kernel
theorem dX12_begin_118 : decode cX12_begin 118 = .ok (.iastore, 1) := by decide +kernel
theorem dX12_begin_119 : decode cX12_begin 119 = .ok (.aload_n 0, 1) := by decide +kernel
theorem dX12_begin_120 : decode cX12_begin 120 = .ok (.getfield 8, 3) := by decide +kernel
theorem dX12_begin_123 : decode cX12_begin 123 = .ok (.iload_n 1, 1) := by decide +kernel
theorem dX12_begin_124 : decode cX12_begin 124 = .ok (.bipush 17, 2) := by decide +kernel
theorem dX12_begin_126 : decode cX12_begin 126 = .ok (.iadd, 1) := by decide +kernel
theorem dX12_begin_127 : decode cX12_begin 127 = .ok (.iload_n 2, 1) := by decide +kernel
theorem dX12_begin_128 : decode cX12_begin 128 = .ok (.iadd, 1) := by decide +kernel
theorem dX12_begin_129 : decode cX12_begin 129 = .ok (.iconst 0, 1) := by decide +kernel
theorem dX12_begin_130 : decode cX12_begin 130 = .ok (.iastore, 1) := by decide +kernel
theorem dX12_begin_131 : decode cX12_begin 131 = .ok (.iinc 2 1, 3) := by decide +kernel
theorem dX12_begin_134 : decode cX12_begin 134 = .ok (.goto (-32), 3) := by decide +kernel
theorem dX12_begin_137 : decode cX12_begin 137 = .ok (.iconst 0, 1) := by decide +kernel
theorem dX12_begin_138 : decode cX12_begin 138 = .ok (.istore_n 2, 1) := by decide +kernel
theorem dX12_begin_139 : decode cX12_begin 139 = .ok (.iload_n 2, 1) := by decide +kernel
theorem dX12_begin_140 : decode cX12_begin 140 = .ok (.iconst 4, 1) := by decide +kernel
theorem dX12_begin_141 : decode cX12_begin 141 = .ok (.if_icmp .ge 21, 3) := by decide +kernel
theorem dX12_begin_144 : decode cX12_begin 144 = .ok (.aload_n 0, 1) := by decide +kernel
theorem dX12_begin_145 : decode cX12_begin 145 = .ok (.getfield 8, 3) := by decide +kernel
theorem dX12_begin_148 : decode cX12_begin 148 = .ok (.iload_n 1, 1) := by decide +kernel
theorem dX12_begin_149 : decode cX12_begin 149 = .ok (.bipush 22, 2) := by decide +kernel
theorem dX12_begin_151 : decode cX12_begin 151 = .ok (.iadd, 1) := by decide +kernel
theorem dX12_begin_152 : decode cX12_begin 152 = .ok (.iload_n 2, 1) := by decide +kernel
theorem dX12_begin_153 : decode cX12_begin 153 = .ok (.iadd, 1) := by decide +kernel
theorem dX12_begin_154 : decode cX12_begin 154 = .ok (.iconst (-1), 1) := by decide +kernel
theorem dX12_begin_155 : decode cX12_begin 155 = .ok (.iastore, 1) := by decide +kernel
theorem dX12_begin_156 : decode cX12_begin 156 = .ok (.iinc 2 1, 3) := by decide +kernel
theorem dX12_begin_159 : decode cX12_begin 159 = .ok (.goto (-20), 3) := by decide +kernel
theorem dX12_begin_162 : decode cX12_begin 162 = .ok (.aload_n 0, 1) := by decide +kernel
theorem dX12_begin_163 : decode cX12_begin 163 = .ok (.getfield 8, 3) := by decide +kernel
theorem dX12_begin_166 : decode cX12_begin 166 = .ok (.iload_n 1, 1) := by decide +kernel
theorem dX12_begin_167 : decode cX12_begin 167 = .ok (.iconst 1, 1) := by decide +kernel
theorem dX12_begin_168 : decode cX12_begin 168 = .ok (.iadd, 1) := by decide +kernel
theorem dX12_begin_169 : decode cX12_begin 169 = .ok (.iaload, 1) := by decide +kernel
theorem dX12_begin_170 : decode cX12_begin 170 = .ok (.istore_n 2, 1) := by decide +kernel
theorem dX12_begin_171 : decode cX12_begin 171 = .ok (.aload_n 0, 1) := by decide +kernel
theorem dX12_begin_172 : decode cX12_begin 172 = .ok (.getfield 8, 3) := by decide +kernel
theorem dX12_begin_175 : decode cX12_begin 175 = .ok (.iload_n 1, 1) := by decide +kernel
theorem dX12_begin_176 : decode cX12_begin 176 = .ok (.bipush 21, 2) := by decide +kernel
theorem dX12_begin_178 : decode cX12_begin 178 = .ok (.iadd, 1) := by decide +kernel
theorem dX12_begin_179 : decode cX12_begin 179 = .ok (.iload_n 2, 1) := by decide +kernel
theorem dX12_begin_180 : decode cX12_begin 180 = .ok (.iastore, 1) := by decide +kernel
theorem dX12_begin_181 : decode cX12_begin 181 = .ok (.iconst 0, 1) := by decide +kernel
theorem dX12_begin_182 : decode cX12_begin 182 = .ok (.istore_n 3, 1) := by decide +kernel
theorem dX12_begin_183 : decode cX12_begin 183 = .ok (.iload_n 3, 1) := by decide +kernel
theorem dX12_begin_184 : decode cX12_begin 184 = .ok (.iload_n 2, 1) := by decide +kernel
theorem dX12_begin_185 : decode cX12_begin 185 = .ok (.if_icmp .ge 47, 3) := by decide +kernel
theorem dX12_begin_188 : decode cX12_begin 188 = .ok (.aload_n 0, 1) := by decide +kernel
theorem dX12_begin_189 : decode cX12_begin 189 = .ok (.getfield 8, 3) := by decide +kernel
theorem dX12_begin_192 : decode cX12_begin 192 = .ok (.iload_n 1, 1) := by decide +kernel
theorem dX12_begin_193 : decode cX12_begin 193 = .ok (.sipush 170, 3) := by decide +kernel
theorem dX12_begin_196 : decode cX12_begin 196 = .ok (.iadd, 1) := by decide +kernel
theorem dX12_begin_197 : decode cX12_begin 197 = .ok (.iload_n 3, 1) := by decide +kernel
theorem dX12_begin_198 : decode cX12_begin 198 = .ok (.iadd, 1) := by decide +kernel
theorem dX12_begin_199 : decode cX12_begin 199 = .ok (.iload_n 3, 1) := by decide +kernel
theorem dX12_begin_200 : decode cX12_begin 200 = .ok (.iastore, 1) := by decide +kernel
theorem dX12_begin_201 : decode cX12_begin 201 = .ok (.aload_n 0, 1) := by decide +kernel
theorem dX12_begin_202 : decode cX12_begin 202 = .ok (.getfield 8, 3) := by decide +kernel
theorem dX12_begin_205 : decode cX12_begin 205 = .ok (.iload_n 1, 1) := by decide +kernel
theorem dX12_begin_206 : decode cX12_begin 206 = .ok (.bipush 110, 2) := by decide +kernel
theorem dX12_begin_208 : decode cX12_begin 208 = .ok (.iadd, 1) := by decide +kernel
theorem dX12_begin_209 : decode cX12_begin 209 = .ok (.iload_n 3, 1) := by decide +kernel
theorem dX12_begin_210 : decode cX12_begin 210 = .ok (.iadd, 1) := by decide +kernel
theorem dX12_begin_211 : decode cX12_begin 211 = .ok (.iconst 0, 1) := by decide +kernel
theorem dX12_begin_212 : decode cX12_begin 212 = .ok (.iastore, 1) := by decide +kernel
theorem dX12_begin_213 : decode cX12_begin 213 = .ok (.aload_n 0, 1) := by decide +kernel
theorem dX12_begin_214 : decode cX12_begin 214 = .ok (.getfield 8, 3) := by decide +kernel
theorem dX12_begin_217 : decode cX12_begin 217 = .ok (.iload_n 1, 1) := by decide +kernel
theorem dX12_begin_218 : decode cX12_begin 218 = .ok (.sipush 470, 3) := by decide +kernel
theorem dX12_begin_221 : decode cX12_begin 221 = .ok (.iadd, 1) := by decide +kernel
theorem dX12_begin_222 : decode cX12_begin 222 = .ok (.iload_n 3, 1) := by decide +kernel
theorem dX12_begin_223 : decode cX12_begin 223 = .ok (.iadd, 1) := by decide +kernel
theorem dX12_begin_224 : decode cX12_begin 224 = .ok (.iconst (-1), 1) := by decide +kernel
theorem dX12_begin_225 : decode cX12_begin 225 = .ok (.iastore, 1) := by decide +kernel
theorem dX12_begin_226 : decode cX12_begin 226 = .ok (.iinc 3 1, 3) := by decide +kernel
theorem dX12_begin_229 : decode cX12_begin 229 = .ok (.goto (-46), 3) := by decide +kernel
theorem dX12_begin_232 : decode cX12_begin 232 = .ok (.return_, 1) := by decide +kernel
theorem dX12_seat_0 : decode cX12_seat 0 = .ok (.aload_n 0, 1) := by decide +kernel
theorem dX12_seat_1 : decode cX12_seat 1 = .ok (.iload_n 1, 1) := by decide +kernel
theorem dX12_seat_2 : decode cX12_seat 2 = .ok (.invokevirtual 107, 3) := by decide +kernel
theorem dX12_seat_5 : decode cX12_seat 5 = .ok (.ifCond .eq 10, 3) := by decide +kernel
theorem dX12_seat_8 : decode cX12_seat 8 = .ok (.iload_n 2, 1) := by decide +kernel
theorem dX12_seat_9 : decode cX12_seat 9 = .ok (.invokestatic 110, 3) := by decide +kernel
theorem dX12_seat_12 : decode cX12_seat 12 = .ok (.ifCond .ne 6, 3) := by decide +kernel
theorem dX12_seat_15 : decode cX12_seat 15 = .ok (.bipush (-2), 2) := by decide +kernel
theorem dX12_seat_17 : decode cX12_seat 17 = .ok (.ireturn, 1) := by decide +kernel
theorem dX12_seat_18 : decode cX12_seat 18 = .ok (.sipush 1290, 3) := by decide +kernel
theorem dX12_seat_21 : decode cX12_seat 21 = .ok (.iload_n 1, 1) := by decide +kernel
theorem dX12_seat_22 : decode cX12_seat 22 = .ok (.imul, 1) := by decide +kernel
theorem dX12_seat_23 : decode cX12_seat 23 = .ok (.istore 4, 2) := by decide +kernel
theorem dX12_seat_25 : decode cX12_seat 25 = .ok (.aload_n 0, 1) := by decide +kernel
theorem dX12_seat_26 : decode cX12_seat 26 = .ok (.getfield 8, 3) := by decide +kernel
theorem dX12_seat_29 : decode cX12_seat 29 = .ok (.iload 4, 2) := by decide +kernel
theorem dX12_seat_31 : decode cX12_seat 31 = .ok (.iconst 5, 1) := by decide +kernel
theorem dX12_seat_32 : decode cX12_seat 32 = .ok (.iadd, 1) := by decide +kernel
theorem dX12_seat_33 : decode cX12_seat 33 = .ok (.iaload, 1) := by decide +kernel
theorem dX12_seat_34 : decode cX12_seat 34 = .ok (.iconst 1, 1) := by decide +kernel
theorem dX12_seat_35 : decode cX12_seat 35 = .ok (.if_icmp .ne 6, 3) := by decide +kernel
theorem dX12_seat_38 : decode cX12_seat 38 = .ok (.bipush (-4), 2) := by decide +kernel
theorem dX12_seat_40 : decode cX12_seat 40 = .ok (.ireturn, 1) := by decide +kernel
theorem dX12_seat_41 : decode cX12_seat 41 = .ok (.aload_n 0, 1) := by decide +kernel
theorem dX12_seat_42 : decode cX12_seat 42 = .ok (.getfield 8, 3) := by decide +kernel
theorem dX12_seat_45 : decode cX12_seat 45 = .ok (.iload 4, 2) := by decide +kernel
theorem dX12_seat_47 : decode cX12_seat 47 = .ok (.bipush 35, 2) := by decide +kernel
theorem dX12_seat_49 : decode cX12_seat 49 = .ok (.iadd, 1) := by decide +kernel
theorem dX12_seat_50 : decode cX12_seat 50 = .ok (.iload_n 2, 1) := by decide +kernel
theorem dX12_seat_51 : decode cX12_seat 51 = .ok (.iadd, 1) := by decide +kernel
theorem dX12_seat_52 : decode cX12_seat 52 = .ok (.iaload, 1) := by decide +kernel
theorem dX12_seat_53 : decode cX12_seat 53 = .ok (.istore 5, 2) := by decide +kernel
theorem dX12_seat_55 : decode cX12_seat 55 = .ok (.aload_n 0, 1) := by decide +kernel
theorem dX12_seat_56 : decode cX12_seat 56 = .ok (.getfield 8, 3) := by decide +kernel
theorem dX12_seat_59 : decode cX12_seat 59 = .ok (.iload 4, 2) := by decide +kernel
theorem dX12_seat_61 : decode cX12_seat 61 = .ok (.bipush 35, 2) := by decide +kernel
theorem dX12_seat_63 : decode cX12_seat 63 = .ok (.iadd, 1) := by decide +kernel
theorem dX12_seat_64 : decode cX12_seat 64 = .ok (.iload_n 2, 1) := by decide +kernel
theorem dX12_seat_65 : decode cX12_seat 65 = .ok (.iadd, 1) := by decide +kernel
theorem dX12_seat_66 : decode cX12_seat 66 = .ok (.iload_n 3, 1) := by decide +kernel
theorem dX12_seat_67 : decode cX12_seat 67 = .ok (.ifCond .eq 7, 3) := by decide +kernel
theorem dX12_seat_70 : decode cX12_seat 70 = .ok (.iconst 1, 1) := by decide +kernel
theorem dX12_seat_71 : decode cX12_seat 71 = .ok (.goto 4, 3) := by decide +kernel
theorem dX12_seat_74 : decode cX12_seat 74 = .ok (.iconst 0, 1) := by decide +kernel
theorem dX12_seat_75 : decode cX12_seat 75 = .ok (.iastore, 1) := by decide +kernel
theorem dX12_seat_76 : decode cX12_seat 76 = .ok (.iload_n 3, 1) := by decide +kernel
theorem dX12_seat_77 : decode cX12_seat 77 = .ok (.ifCond .eq 12, 3) := by decide +kernel
theorem dX12_seat_80 : decode cX12_seat 80 = .ok (.iload 5, 2) := by decide +kernel
theorem dX12_seat_82 : decode cX12_seat 82 = .ok (.iconst 1, 1) := by decide +kernel
theorem dX12_seat_83 : decode cX12_seat 83 = .ok (.if_icmp .ne 6, 3) := by decide +kernel
theorem dX12_seat_86 : decode cX12_seat 86 = .ok (.iload 5, 2) := by decide +kernel
theorem dX12_seat_88 : decode cX12_seat 88 = .ok (.ireturn, 1) := by decide +kernel
theorem dX12_seat_89 : decode cX12_seat 89 = .ok (.iconst 0, 1) := by decide +kernel
theorem dX12_seat_90 : decode cX12_seat 90 = .ok (.istore 6, 2) := by decide +kernel
theorem dX12_seat_92 : decode cX12_seat 92 = .ok (.iload 6, 2) := by decide +kernel
theorem dX12_seat_94 : decode cX12_seat 94 = .ok (.aload_n 0, 1) := by decide +kernel
theorem dX12_seat_95 : decode cX12_seat 95 = .ok (.getfield 8, 3) := by decide +kernel
theorem dX12_seat_98 : decode cX12_seat 98 = .ok (.iload 4, 2) := by decide +kernel
theorem dX12_seat_100 : decode cX12_seat 100 = .ok (.bipush 22, 2) := by decide +kernel
theorem dX12_seat_102 : decode cX12_seat 102 = .ok (.iadd, 1) := by decide +kernel
theorem dX12_seat_103 : decode cX12_seat 103 = .ok (.iload_n 2, 1) := by decide +kernel
theorem dX12_seat_104 : decode cX12_seat 104 = .ok (.iadd, 1) := by decide +kernel
theorem dX12_seat_105 : decode cX12_seat 105 = .ok (.iaload, 1) := by decide +kernel
theorem dX12_seat_106 : decode cX12_seat 106 = .ok (.if_icmp .ge 82, 3) := by decide +kernel
theorem dX12_seat_109 : decode cX12_seat 109 = .ok (.aload_n 0, 1) := by decide +kernel
theorem dX12_seat_110 : decode cX12_seat 110 = .ok (.getfield 8, 3) := by decide +kernel
theorem dX12_seat_113 : decode cX12_seat 113 = .ok (.iload 4, 2) := by decide +kernel
theorem dX12_seat_115 : decode cX12_seat 115 = .ok (.sipush 230, 3) := by decide +kernel
theorem dX12_seat_118 : decode cX12_seat 118 = .ok (.iadd, 1) := by decide +kernel
theorem dX12_seat_119 : decode cX12_seat 119 = .ok (.bipush 60, 2) := by decide +kernel
theorem dX12_seat_121 : decode cX12_seat 121 = .ok (.iload_n 2, 1) := by decide +kernel
theorem dX12_seat_122 : decode cX12_seat 122 = .ok (.imul, 1) := by decide +kernel
theorem dX12_seat_123 : decode cX12_seat 123 = .ok (.iadd, 1) := by decide +kernel
theorem dX12_seat_124 : decode cX12_seat 124 = .ok (.iload 6, 2) := by decide +kernel
theorem dX12_seat_126 : decode cX12_seat 126 = .ok (.iadd, 1) := by decide +kernel
theorem dX12_seat_127 : decode cX12_seat 127 = .ok (.iaload, 1) := by decide +kernel
theorem dX12_seat_128 : decode cX12_seat 128 = .ok (.istore 7, 2) := by decide +kernel
theorem dX12_seat_130 : decode cX12_seat 130 = .ok (.aload_n 0, 1) := by decide +kernel
theorem dX12_seat_131 : decode cX12_seat 131 = .ok (.getfield 8, 3) := by decide +kernel
theorem dX12_seat_134 : decode cX12_seat 134 = .ok (.iload 4, 2) := by decide +kernel
theorem dX12_seat_136 : decode cX12_seat 136 = .ok (.sipush 170, 3) := by decide +kernel
theorem dX12_seat_139 : decode cX12_seat 139 = .ok (.iadd, 1) := by decide +kernel
theorem dX12_seat_140 : decode cX12_seat 140 = .ok (.aload_n 0, 1) := by decide +kernel
theorem dX12_seat_141 : decode cX12_seat 141 = .ok (.getfield 8, 3) := by decide +kernel
theorem dX12_seat_144 : decode cX12_seat 144 = .ok (.iload 4, 2) := by decide +kernel
theorem dX12_seat_146 : decode cX12_seat 146 = .ok (.bipush 21, 2) := by decide +kernel
theorem dX12_seat_148 : decode cX12_seat 148 = .ok (.iadd, 1) := by decide +kernel
theorem dX12_seat_149 : decode cX12_seat 149 = .ok (.iaload, 1) := by decide +kernel
theorem dX12_seat_150 : decode cX12_seat 150 = .ok (.iadd, 1) := by decide +kernel
theorem dX12_seat_151 : decode cX12_seat 151 = .ok (.iload 7, 2) := by decide +kernel
theorem dX12_seat_153 : decode cX12_seat 153 = .ok (.iastore, 1) := by decide +kernel
theorem dX12_seat_154 : decode cX12_seat 154 = .ok (.aload_n 0, 1) := by decide +kernel
theorem dX12_seat_155 : decode cX12_seat 155 = .ok (.getfield 8, 3) := by decide +kernel
theorem dX12_seat_158 : decode cX12_seat 158 = .ok (.iload 4, 2) := by decide +kernel
theorem dX12_seat_160 : decode cX12_seat 160 = .ok (.bipush 21, 2) := by decide +kernel
theorem dX12_seat_162 : decode cX12_seat 162 = .ok (.iadd, 1) := by decide +kernel
theorem dX12_seat_163 : decode cX12_seat 163 = .ok (.dup2, 1) := by decide +kernel
theorem dX12_seat_164 : decode cX12_seat 164 = .ok (.iaload, 1) := by decide +kernel
theorem dX12_seat_165 : decode cX12_seat 165 = .ok (.iconst 1, 1) := by decide +kernel
theorem dX12_seat_166 : decode cX12_seat 166 = .ok (.iadd, 1) := by decide +kernel
theorem dX12_seat_167 : decode cX12_seat 167 = .ok (.iastore, 1) := by decide +kernel
theorem dX12_seat_168 : decode cX12_seat 168 = .ok (.aload_n 0, 1) := by decide +kernel
theorem dX12_seat_169 : decode cX12_seat 169 = .ok (.getfield 8, 3) := by decide +kernel
theorem dX12_seat_172 : decode cX12_seat 172 = .ok (.iload 4, 2) := by decide +kernel
theorem dX12_seat_174 : decode cX12_seat 174 = .ok (.bipush 110, 2) := by decide +kernel
theorem dX12_seat_176 : decode cX12_seat 176 = .ok (.iadd, 1) := by decide +kernel
theorem dX12_seat_177 : decode cX12_seat 177 = .ok (.iload 7, 2) := by decide +kernel
theorem dX12_seat_179 : decode cX12_seat 179 = .ok (.iadd, 1) := by decide +kernel
theorem dX12_seat_180 : decode cX12_seat 180 = .ok (.iconst 0, 1) := by decide +kernel
theorem dX12_seat_181 : decode cX12_seat 181 = .ok (.iastore, 1) := by decide +kernel
theorem dX12_seat_182 : decode cX12_seat 182 = .ok (.iinc 6 1, 3) := by decide +kernel
theorem dX12_seat_185 : decode cX12_seat 185 = .ok (.goto (-93), 3) := by decide +kernel
theorem dX12_seat_188 : decode cX12_seat 188 = .ok (.aload_n 0, 1) := by decide +kernel
theorem dX12_seat_189 : decode cX12_seat 189 = .ok (.getfield 8, 3) := by decide +kernel
theorem dX12_seat_192 : decode cX12_seat 192 = .ok (.iload 4, 2) := by decide +kernel
theorem dX12_seat_194 : decode cX12_seat 194 = .ok (.bipush 22, 2) := by decide +kernel
theorem dX12_seat_196 : decode cX12_seat 196 = .ok (.iadd, 1) := by decide +kernel
theorem dX12_seat_197 : decode cX12_seat 197 = .ok (.iload_n 2, 1) := by decide +kernel
theorem dX12_seat_198 : decode cX12_seat 198 = .ok (.iadd, 1) := by decide +kernel
theorem dX12_seat_199 : decode cX12_seat 199 = .ok (.iconst (-1), 1) := by decide +kernel
theorem dX12_seat_200 : decode cX12_seat 200 = .ok (.iastore, 1) := by decide +kernel
theorem dX12_seat_201 : decode cX12_seat 201 = .ok (.iload 5, 2) := by decide +kernel
theorem dX12_seat_203 : decode cX12_seat 203 = .ok (.ireturn, 1) := by decide +kernel
theorem dX12_kind_0 : decode cX12_kind 0 = .ok (.aload_n 0, 1) := by decide +kernel
theorem dX12_kind_1 : decode cX12_kind 1 = .ok (.iload_n 1, 1) := by decide +kernel
theorem dX12_kind_2 : decode cX12_kind 2 = .ok (.invokevirtual 107, 3) := by decide +kernel
theorem dX12_kind_5 : decode cX12_kind 5 = .ok (.ifCond .eq 12, 3) := by decide +kernel
theorem dX12_kind_8 : decode cX12_kind 8 = .ok (.aload_n 0, 1) := by decide +kernel
theorem dX12_kind_9 : decode cX12_kind 9 = .ok (.iload_n 1, 1) := by decide +kernel
theorem dX12_kind_10 : decode cX12_kind 10 = .ok (.iload_n 2, 1) := by decide +kernel
theorem dX12_kind_11 : decode cX12_kind 11 = .ok (.invokevirtual 113, 3) := by decide +kernel
theorem dX12_kind_14 : decode cX12_kind 14 = .ok (.ifCond .ne 6, 3) := by decide +kernel
theorem dX12_kind_17 : decode cX12_kind 17 = .ok (.bipush (-2), 2) := by decide +kernel
theorem dX12_kind_19 : decode cX12_kind 19 = .ok (.ireturn, 1) := by decide +kernel
theorem dX12_kind_20 : decode cX12_kind 20 = .ok (.iload_n 3, 1) := by decide +kernel
theorem dX12_kind_21 : decode cX12_kind 21 = .ok (.iconst 0, 1) := by decide +kernel
theorem dX12_kind_22 : decode cX12_kind 22 = .ok (.iconst 3, 1) := by decide +kernel
theorem dX12_kind_23 : decode cX12_kind 23 = .ok (.invokestatic 91, 3) := by decide +kernel
theorem dX12_kind_26 : decode cX12_kind 26 = .ok (.ifCond .ne 6, 3) := by decide +kernel
theorem dX12_kind_29 : decode cX12_kind 29 = .ok (.bipush (-3), 2) := by decide +kernel
theorem dX12_kind_31 : decode cX12_kind 31 = .ok (.ireturn, 1) := by decide +kernel
theorem dX12_kind_32 : decode cX12_kind 32 = .ok (.sipush 1290, 3) := by decide +kernel
theorem dX12_kind_35 : decode cX12_kind 35 = .ok (.iload_n 1, 1) := by decide +kernel
theorem dX12_kind_36 : decode cX12_kind 36 = .ok (.imul, 1) := by decide +kernel
theorem dX12_kind_37 : decode cX12_kind 37 = .ok (.istore 4, 2) := by decide +kernel
theorem dX12_kind_39 : decode cX12_kind 39 = .ok (.aload_n 0, 1) := by decide +kernel
theorem dX12_kind_40 : decode cX12_kind 40 = .ok (.getfield 8, 3) := by decide +kernel
theorem dX12_kind_43 : decode cX12_kind 43 = .ok (.iload 4, 2) := by decide +kernel
theorem dX12_kind_45 : decode cX12_kind 45 = .ok (.bipush 110, 2) := by decide +kernel
theorem dX12_kind_47 : decode cX12_kind 47 = .ok (.iadd, 1) := by decide +kernel
theorem dX12_kind_48 : decode cX12_kind 48 = .ok (.iload_n 2, 1) := by decide +kernel
theorem dX12_kind_49 : decode cX12_kind 49 = .ok (.iadd, 1) := by decide +kernel
theorem dX12_kind_50 : decode cX12_kind 50 = .ok (.iaload, 1) := by decide +kernel
theorem dX12_kind_51 : decode cX12_kind 51 = .ok (.ifCond .eq 6, 3) := by decide +kernel
theorem dX12_kind_54 : decode cX12_kind 54 = .ok (.bipush (-4), 2) := by decide +kernel
theorem dX12_kind_56 : decode cX12_kind 56 = .ok (.ireturn, 1) := by decide +kernel
theorem dX12_kind_57 : decode cX12_kind 57 = .ok (.aload_n 0, 1) := by decide +kernel
theorem dX12_kind_58 : decode cX12_kind 58 = .ok (.getfield 8, 3) := by decide +kernel
theorem dX12_kind_61 : decode cX12_kind 61 = .ok (.iload 4, 2) := by decide +kernel
theorem dX12_kind_63 : decode cX12_kind 63 = .ok (.bipush 50, 2) := by decide +kernel
theorem dX12_kind_65 : decode cX12_kind 65 = .ok (.iadd, 1) := by decide +kernel
theorem dX12_kind_66 : decode cX12_kind 66 = .ok (.iload_n 2, 1) := by decide +kernel
theorem dX12_kind_67 : decode cX12_kind 67 = .ok (.iadd, 1) := by decide +kernel
theorem dX12_kind_68 : decode cX12_kind 68 = .ok (.iaload, 1) := by decide +kernel
theorem dX12_kind_69 : decode cX12_kind 69 = .ok (.istore 5, 2) := by decide +kernel
theorem dX12_kind_71 : decode cX12_kind 71 = .ok (.aload_n 0, 1) := by decide +kernel
theorem dX12_kind_72 : decode cX12_kind 72 = .ok (.getfield 8, 3) := by decide +kernel
theorem dX12_kind_75 : decode cX12_kind 75 = .ok (.iload 4, 2) := by decide +kernel
theorem dX12_kind_77 : decode cX12_kind 77 = .ok (.bipush 50, 2) := by decide +kernel
theorem dX12_kind_79 : decode cX12_kind 79 = .ok (.iadd, 1) := by decide +kernel
theorem dX12_kind_80 : decode cX12_kind 80 = .ok (.iload_n 2, 1) := by decide +kernel
theorem dX12_kind_81 : decode cX12_kind 81 = .ok (.iadd, 1) := by decide +kernel
theorem dX12_kind_82 : decode cX12_kind 82 = .ok (.iload_n 3, 1) := by decide +kernel
theorem dX12_kind_83 : decode cX12_kind 83 = .ok (.iastore, 1) := by decide +kernel
theorem dX12_kind_84 : decode cX12_kind 84 = .ok (.iload 5, 2) := by decide +kernel
theorem dX12_kind_86 : decode cX12_kind 86 = .ok (.ireturn, 1) := by decide +kernel
theorem dX12_card_0 : decode cX12_card 0 = .ok (.aload_n 0, 1) := by decide +kernel
theorem dX12_card_1 : decode cX12_card 1 = .ok (.iload_n 1, 1) := by decide +kernel
theorem dX12_card_2 : decode cX12_card 2 = .ok (.invokevirtual 107, 3) := by decide +kernel
theorem dX12_card_5 : decode cX12_card 5 = .ok (.ifCond .eq 30, 3) := by decide +kernel
theorem dX12_card_8 : decode cX12_card 8 = .ok (.aload_n 0, 1) := by decide +kernel
theorem dX12_card_9 : decode cX12_card 9 = .ok (.iload_n 1, 1) := by decide +kernel
theorem dX12_card_10 : decode cX12_card 10 = .ok (.iload_n 2, 1) := by decide +kernel
theorem dX12_card_11 : decode cX12_card 11 = .ok (.invokevirtual 113, 3) := by decide +kernel
theorem dX12_card_14 : decode cX12_card 14 = .ok (.ifCond .eq 21, 3) := by decide +kernel
theorem dX12_card_17 : decode cX12_card 17 = .ok (.aload_n 0, 1) := by decide +kernel
theorem dX12_card_18 : decode cX12_card 18 = .ok (.getfield 8, 3) := by decide +kernel
theorem dX12_card_21 : decode cX12_card 21 = .ok (.sipush 1290, 3) := by decide +kernel
theorem dX12_card_24 : decode cX12_card 24 = .ok (.iload_n 1, 1) := by decide +kernel
theorem dX12_card_25 : decode cX12_card 25 = .ok (.imul, 1) := by decide +kernel
theorem dX12_card_26 : decode cX12_card 26 = .ok (.bipush 110, 2) := by decide +kernel
theorem dX12_card_28 : decode cX12_card 28 = .ok (.iadd, 1) := by decide +kernel
theorem dX12_card_29 : decode cX12_card 29 = .ok (.iload_n 2, 1) := by decide +kernel
theorem dX12_card_30 : decode cX12_card 30 = .ok (.iadd, 1) := by decide +kernel
theorem dX12_card_31 : decode cX12_card 31 = .ok (.iaload, 1) := by decide +kernel
theorem dX12_card_32 : decode cX12_card 32 = .ok (.goto 5, 3) := by decide +kernel
theorem dX12_card_35 : decode cX12_card 35 = .ok (.bipush (-2), 2) := by decide +kernel
theorem dX12_card_37 : decode cX12_card 37 = .ok (.ireturn, 1) := by decide +kernel
theorem dX12_match_0 : decode cX12_match 0 = .ok (.aload_n 0, 1) := by decide +kernel
theorem dX12_match_1 : decode cX12_match 1 = .ok (.iload_n 1, 1) := by decide +kernel
theorem dX12_match_2 : decode cX12_match 2 = .ok (.invokevirtual 107, 3) := by decide +kernel
theorem dX12_match_5 : decode cX12_match 5 = .ok (.ifCond .ne 6, 3) := by decide +kernel
theorem dX12_match_8 : decode cX12_match 8 = .ok (.bipush (-2), 2) := by decide +kernel
theorem dX12_match_10 : decode cX12_match 10 = .ok (.ireturn, 1) := by decide +kernel
theorem dX12_match_11 : decode cX12_match 11 = .ok (.iload_n 2, 1) := by decide +kernel
theorem dX12_match_12 : decode cX12_match 12 = .ok (.iconst 1, 1) := by decide +kernel
theorem dX12_match_13 : decode cX12_match 13 = .ok (.sipush 200, 3) := by decide +kernel
theorem dX12_match_16 : decode cX12_match 16 = .ok (.invokestatic 91, 3) := by decide +kernel
theorem dX12_match_19 : decode cX12_match 19 = .ok (.ifCond .ne 6, 3) := by decide +kernel
theorem dX12_match_22 : decode cX12_match 22 = .ok (.bipush (-3), 2) := by decide +kernel
theorem dX12_match_24 : decode cX12_match 24 = .ok (.ireturn, 1) := by decide +kernel
theorem dX12_match_25 : decode cX12_match 25 = .ok (.sipush 1290, 3) := by decide +kernel
theorem dX12_match_28 : decode cX12_match 28 = .ok (.iload_n 1, 1) := by decide +kernel
theorem dX12_match_29 : decode cX12_match 29 = .ok (.imul, 1) := by decide +kernel
theorem dX12_match_30 : decode cX12_match 30 = .ok (.istore_n 3, 1) := by decide +kernel
theorem dX12_match_31 : decode cX12_match 31 = .ok (.aload_n 0, 1) := by decide +kernel
theorem dX12_match_32 : decode cX12_match 32 = .ok (.getfield 8, 3) := by decide +kernel
theorem dX12_match_35 : decode cX12_match 35 = .ok (.iload_n 3, 1) := by decide +kernel
theorem dX12_match_36 : decode cX12_match 36 = .ok (.iconst 5, 1) := by decide +kernel
theorem dX12_match_37 : decode cX12_match 37 = .ok (.iadd, 1) := by decide +kernel
theorem dX12_match_38 : decode cX12_match 38 = .ok (.iaload, 1) := by decide +kernel
theorem dX12_match_39 : decode cX12_match 39 = .ok (.iconst 1, 1) := by decide +kernel
theorem dX12_match_40 : decode cX12_match 40 = .ok (.if_icmp .ne 6, 3) := by decide +kernel
theorem dX12_match_43 : decode cX12_match 43 = .ok (.bipush (-4), 2) := by decide +kernel
theorem dX12_match_45 : decode cX12_match 45 = .ok (.ireturn, 1) := by decide +kernel
theorem dX12_match_46 : decode cX12_match 46 = .ok (.aload_n 0, 1) := by decide +kernel
theorem dX12_match_47 : decode cX12_match 47 = .ok (.getfield 8, 3) := by decide +kernel
theorem dX12_match_50 : decode cX12_match 50 = .ok (.iload_n 3, 1) := by decide +kernel
theorem dX12_match_51 : decode cX12_match 51 = .ok (.bipush 8, 2) := by decide +kernel
theorem dX12_match_53 : decode cX12_match 53 = .ok (.iadd, 1) := by decide +kernel
theorem dX12_match_54 : decode cX12_match 54 = .ok (.iaload, 1) := by decide +kernel
theorem dX12_match_55 : decode cX12_match 55 = .ok (.istore 4, 2) := by decide +kernel
theorem dX12_match_57 : decode cX12_match 57 = .ok (.aload_n 0, 1) := by decide +kernel
theorem dX12_match_58 : decode cX12_match 58 = .ok (.getfield 8, 3) := by decide +kernel
theorem dX12_match_61 : decode cX12_match 61 = .ok (.iload_n 3, 1) := by decide +kernel
theorem dX12_match_62 : decode cX12_match 62 = .ok (.bipush 7, 2) := by decide +kernel
theorem dX12_match_64 : decode cX12_match 64 = .ok (.iadd, 1) := by decide +kernel
theorem dX12_match_65 : decode cX12_match 65 = .ok (.iload_n 2, 1) := by decide +kernel
theorem dX12_match_66 : decode cX12_match 66 = .ok (.iastore, 1) := by decide +kernel
theorem dX12_match_67 : decode cX12_match 67 = .ok (.aload_n 0, 1) := by decide +kernel
theorem dX12_match_68 : decode cX12_match 68 = .ok (.getfield 8, 3) := by decide +kernel
theorem dX12_match_71 : decode cX12_match 71 = .ok (.iload_n 3, 1) := by decide +kernel
theorem dX12_match_72 : decode cX12_match 72 = .ok (.bipush 8, 2) := by decide +kernel
theorem dX12_match_74 : decode cX12_match 74 = .ok (.iadd, 1) := by decide +kernel
theorem dX12_match_75 : decode cX12_match 75 = .ok (.iconst 0, 1) := by decide +kernel
theorem dX12_match_76 : decode cX12_match 76 = .ok (.iastore, 1) := by decide +kernel
theorem dX12_match_77 : decode cX12_match 77 = .ok (.iconst 0, 1) := by decide +kernel
theorem dX12_match_78 : decode cX12_match 78 = .ok (.istore 5, 2) := by decide +kernel
theorem dX12_match_80 : decode cX12_match 80 = .ok (.iload 5, 2) := by decide +kernel
theorem dX12_match_82 : decode cX12_match 82 = .ok (.iconst 4, 1) := by decide +kernel
theorem dX12_match_83 : decode cX12_match 83 = .ok (.if_icmp .ge 22, 3) := by decide +kernel
theorem dX12_match_86 : decode cX12_match 86 = .ok (.aload_n 0, 1) := by decide +kernel
theorem dX12_match_87 : decode cX12_match 87 = .ok (.getfield 8, 3) := by decide +kernel
theorem dX12_match_90 : decode cX12_match 90 = .ok (.iload_n 3, 1) := by decide +kernel
theorem dX12_match_91 : decode cX12_match 91 = .ok (.bipush 39, 2) := by decide +kernel
theorem dX12_match_93 : decode cX12_match 93 = .ok (.iadd, 1) := by decide +kernel
theorem dX12_match_94 : decode cX12_match 94 = .ok (.iload 5, 2) := by decide +kernel
theorem dX12_match_96 : decode cX12_match 96 = .ok (.iadd, 1) := by decide +kernel
theorem dX12_match_97 : decode cX12_match 97 = .ok (.iconst 0, 1) := by decide +kernel
theorem dX12_match_98 : decode cX12_match 98 = .ok (.iastore, 1) := by decide +kernel
theorem dX12_match_99 : decode cX12_match 99 = .ok (.iinc 5 1, 3) := by decide +kernel
theorem dX12_match_102 : decode cX12_match 102 = .ok (.goto (-22), 3) := by decide +kernel
theorem dX12_match_105 : decode cX12_match 105 = .ok (.iload 4, 2) := by decide +kernel
theorem dX12_match_107 : decode cX12_match 107 = .ok (.ireturn, 1) := by decide +kernel
theorem dX12_colour_0 : decode cX12_colour 0 = .ok (.aload_n 0, 1) := by decide +kernel
theorem dX12_colour_1 : decode cX12_colour 1 = .ok (.getfield 8, 3) := by decide +kernel
theorem dX12_colour_4 : decode cX12_colour 4 = .ok (.iload_n 1, 1) := by decide +kernel
theorem dX12_colour_5 : decode cX12_colour 5 = .ok (.bipush 50, 2) := by decide +kernel
theorem dX12_colour_7 : decode cX12_colour 7 = .ok (.iadd, 1) := by decide +kernel
theorem dX12_colour_8 : decode cX12_colour 8 = .ok (.iload_n 2, 1) := by decide +kernel
theorem dX12_colour_9 : decode cX12_colour 9 = .ok (.iadd, 1) := by decide +kernel
theorem dX12_colour_10 : decode cX12_colour 10 = .ok (.iaload, 1) := by decide +kernel
theorem dX12_colour_11 : decode cX12_colour 11 = .ok (.istore_n 3, 1) := by decide +kernel
theorem dX12_colour_12 : decode cX12_colour 12 = .ok (.iload_n 3, 1) := by decide +kernel
theorem dX12_colour_13 : decode cX12_colour 13 = .ok (.ifCond .ne 9, 3) := by decide +kernel
theorem dX12_colour_16 : decode cX12_colour 16 = .ok (.iload_n 2, 1) := by decide +kernel
theorem dX12_colour_17 : decode cX12_colour 17 = .ok (.iconst 4, 1) := by decide +kernel
theorem dX12_colour_18 : decode cX12_colour 18 = .ok (.irem, 1) := by decide +kernel
theorem dX12_colour_19 : decode cX12_colour 19 = .ok (.goto 6, 3) := by decide +kernel
theorem dX12_colour_22 : decode cX12_colour 22 = .ok (.iconst 3, 1) := by decide +kernel
theorem dX12_colour_23 : decode cX12_colour 23 = .ok (.iload_n 3, 1) := by decide +kernel
theorem dX12_colour_24 : decode cX12_colour 24 = .ok (.iadd, 1) := by decide +kernel
theorem dX12_colour_25 : decode cX12_colour 25 = .ok (.ireturn, 1) := by decide +kernel
theorem dX12_has_0 : decode cX12_has 0 = .ok (.iconst 0, 1) := by decide +kernel
theorem dX12_has_1 : decode cX12_has 1 = .ok (.istore_n 3, 1) := by decide +kernel
theorem dX12_has_2 : decode cX12_has 2 = .ok (.iload_n 3, 1) := by decide +kernel
theorem dX12_has_3 : decode cX12_has 3 = .ok (.aload_n 0, 1) := by decide +kernel
theorem dX12_has_4 : decode cX12_has 4 = .ok (.getfield 117, 3) := by decide +kernel
theorem dX12_has_7 : decode cX12_has 7 = .ok (.if_icmp .ge 26, 3) := by decide +kernel
theorem dX12_has_10 : decode cX12_has 10 = .ok (.aload_n 0, 1) := by decide +kernel
theorem dX12_has_11 : decode cX12_has 11 = .ok (.iload_n 1, 1) := by decide +kernel
theorem dX12_has_12 : decode cX12_has 12 = .ok (.aload_n 0, 1) := by decide +kernel
theorem dX12_has_13 : decode cX12_has 13 = .ok (.getfield 36, 3) := by decide +kernel
theorem dX12_has_16 : decode cX12_has 16 = .ok (.iload_n 3, 1) := by decide +kernel
theorem dX12_has_17 : decode cX12_has 17 = .ok (.iaload, 1) := by decide +kernel
theorem dX12_has_18 : decode cX12_has 18 = .ok (.invokevirtual 120, 3) := by decide +kernel
theorem dX12_has_21 : decode cX12_has 21 = .ok (.iload_n 2, 1) := by decide +kernel
theorem dX12_has_22 : decode cX12_has 22 = .ok (.if_icmp .ne 5, 3) := by decide +kernel
theorem dX12_has_25 : decode cX12_has 25 = .ok (.iconst 1, 1) := by decide +kernel
theorem dX12_has_26 : decode cX12_has 26 = .ok (.ireturn, 1) := by decide +kernel
theorem dX12_has_27 : decode cX12_has 27 = .ok (.iinc 3 1, 3) := by decide +kernel
theorem dX12_has_30 : decode cX12_has 30 = .ok (.goto (-28), 3) := by decide +kernel
theorem dX12_has_33 : decode cX12_has 33 = .ok (.iconst 0, 1) := by decide +kernel
theorem dX12_has_34 : decode cX12_has 34 = .ok (.ireturn, 1) := by decide +kernel
theorem dX12_hasOther_0 : decode cX12_hasOther 0 = .ok (.iconst 0, 1) := by decide +kernel
theorem dX12_hasOther_1 : decode cX12_hasOther 1 = .ok (.istore_n 3, 1) := by decide +kernel
theorem dX12_hasOther_2 : decode cX12_hasOther 2 = .ok (.iload_n 3, 1) := by decide +kernel
theorem dX12_hasOther_3 : decode cX12_hasOther 3 = .ok (.aload_n 0, 1) := by decide +kernel
theorem dX12_hasOther_4 : decode cX12_hasOther 4 = .ok (.getfield 117, 3) := by decide +kernel
theorem dX12_hasOther_7 : decode cX12_hasOther 7 = .ok (.if_icmp .ge 37, 3) := by decide +kernel
theorem dX12_hasOther_10 : decode cX12_hasOther 10 = .ok (.aload_n 0, 1) := by decide +kernel
theorem dX12_hasOther_11 : decode cX12_hasOther 11 = .ok (.iload_n 1, 1) := by decide +kernel
theorem dX12_hasOther_12 : decode cX12_hasOther 12 = .ok (.aload_n 0, 1) := by decide +kernel
theorem dX12_hasOther_13 : decode cX12_hasOther 13 = .ok (.getfield 36, 3) := by decide +kernel
theorem dX12_hasOther_16 : decode cX12_hasOther 16 = .ok (.iload_n 3, 1) := by decide +kernel
theorem dX12_hasOther_17 : decode cX12_hasOther 17 = .ok (.iaload, 1) := by decide +kernel
theorem dX12_hasOther_18 : decode cX12_hasOther 18 = .ok (.invokevirtual 120, 3) := by decide +kernel
theorem dX12_hasOther_21 : decode cX12_hasOther 21 = .ok (.istore 4, 2) := by decide +kernel
theorem dX12_hasOther_23 : decode cX12_hasOther 23 = .ok (.iload 4, 2) := by decide +kernel
theorem dX12_hasOther_25 : decode cX12_hasOther 25 = .ok (.iload_n 2, 1) := by decide +kernel
theorem dX12_hasOther_26 : decode cX12_hasOther 26 = .ok (.if_icmp .eq 12, 3) := by decide +kernel
theorem dX12_hasOther_29 : decode cX12_hasOther 29 = .ok (.iload 4, 2) := by decide +kernel
theorem dX12_hasOther_31 : decode cX12_hasOther 31 = .ok (.bipush 6, 2) := by decide +kernel
theorem dX12_hasOther_33 : decode cX12_hasOther 33 = .ok (.if_icmp .eq 5, 3) := by decide +kernel
theorem dX12_hasOther_36 : decode cX12_hasOther 36 = .ok (.iconst 1, 1) := by decide +kernel
theorem dX12_hasOther_37 : decode cX12_hasOther 37 = .ok (.ireturn, 1) := by decide +kernel
theorem dX12_hasOther_38 : decode cX12_hasOther 38 = .ok (.iinc 3 1, 3) := by decide +kernel
theorem dX12_hasOther_41 : decode cX12_hasOther 41 = .ok (.goto (-39), 3) := by decide +kernel
theorem dX12_hasOther_44 : decode cX12_hasOther 44 = .ok (.iconst 0, 1) := by decide +kernel
theorem dX12_hasOther_45 : decode cX12_hasOther 45 = .ok (.ireturn, 1) := by decide +kernel
theorem dX12_allows_0 : decode cX12_allows 0 = .ok (.aload_n 0, 1) := by decide +kernel
theorem dX12_allows_1 : decode cX12_allows 1 = .ok (.getfield 8, 3) := by decide +kernel
theorem dX12_allows_4 : decode cX12_allows 4 = .ok (.iload_n 1, 1) := by decide +kernel
theorem dX12_allows_5 : decode cX12_allows 5 = .ok (.iconst 3, 1) := by decide +kernel
theorem dX12_allows_6 : decode cX12_allows 6 = .ok (.iadd, 1) := by decide +kernel
theorem dX12_allows_7 : decode cX12_allows 7 = .ok (.iaload, 1) := by decide +kernel
theorem dX12_allows_8 : decode cX12_allows 8 = .ok (.istore_n 3, 1) := by decide +kernel
theorem dX12_allows_9 : decode cX12_allows 9 = .ok (.iload_n 3, 1) := by decide +kernel
theorem dX12_allows_10 : decode cX12_allows 10 = .ok (.iconst 1, 1) := by decide +kernel
theorem dX12_allows_11 : decode cX12_allows 11 = .ok (.if_icmp .eq 8, 3) := by decide +kernel
theorem dX12_allows_14 : decode cX12_allows 14 = .ok (.iload_n 3, 1) := by decide +kernel
theorem dX12_allows_15 : decode cX12_allows 15 = .ok (.iconst 3, 1) := by decide +kernel
theorem dX12_allows_16 : decode cX12_allows 16 = .ok (.if_icmp .ne 7, 3) := by decide +kernel
theorem dX12_allows_19 : decode cX12_allows 19 = .ok (.iconst 1, 1) := by decide +kernel
theorem dX12_allows_20 : decode cX12_allows 20 = .ok (.goto 4, 3) := by decide +kernel
theorem dX12_allows_23 : decode cX12_allows 23 = .ok (.iconst 0, 1) := by decide +kernel
theorem dX12_allows_24 : decode cX12_allows 24 = .ok (.istore 4, 2) := by decide +kernel
theorem dX12_allows_26 : decode cX12_allows 26 = .ok (.aload_n 0, 1) := by decide +kernel
theorem dX12_allows_27 : decode cX12_allows 27 = .ok (.getfield 8, 3) := by decide +kernel
theorem dX12_allows_30 : decode cX12_allows 30 = .ok (.iload_n 1, 1) := by decide +kernel
theorem dX12_allows_31 : decode cX12_allows 31 = .ok (.iconst 2, 1) := by decide +kernel
theorem dX12_allows_32 : decode cX12_allows 32 = .ok (.iadd, 1) := by decide +kernel
theorem dX12_allows_33 : decode cX12_allows 33 = .ok (.iaload, 1) := by decide +kernel
theorem dX12_allows_34 : decode cX12_allows 34 = .ok (.iconst 4, 1) := by decide +kernel
theorem dX12_allows_35 : decode cX12_allows 35 = .ok (.if_icmp .ne 9, 3) := by decide +kernel
theorem dX12_allows_38 : decode cX12_allows 38 = .ok (.aload_n 0, 1) := by decide +kernel
theorem dX12_allows_39 : decode cX12_allows 39 = .ok (.bipush 24, 2) := by decide +kernel
theorem dX12_allows_41 : decode cX12_allows 41 = .ok (.invokevirtual 124, 3) := by decide +kernel
theorem dX12_allows_44 : decode cX12_allows 44 = .ok (.iload 4, 2) := by decide +kernel
theorem dX12_allows_46 : decode cX12_allows 46 = .ok (.ifCond .ne 8, 3) := by decide +kernel
theorem dX12_allows_49 : decode cX12_allows 49 = .ok (.iload_n 3, 1) := by decide +kernel
theorem dX12_allows_50 : decode cX12_allows 50 = .ok (.iconst 2, 1) := by decide +kernel
theorem dX12_allows_51 : decode cX12_allows 51 = .ok (.if_icmp .ne 19, 3) := by decide +kernel
theorem dX12_allows_54 : decode cX12_allows 54 = .ok (.aload_n 0, 1) := by decide +kernel
theorem dX12_allows_55 : decode cX12_allows 55 = .ok (.iload 4, 2) := by decide +kernel
theorem dX12_allows_57 : decode cX12_allows 57 = .ok (.ifCond .eq 8, 3) := by decide +kernel
theorem dX12_allows_60 : decode cX12_allows 60 = .ok (.bipush 22, 2) := by decide +kernel
theorem dX12_allows_62 : decode cX12_allows 62 = .ok (.goto 5, 3) := by decide +kernel
theorem dX12_allows_65 : decode cX12_allows 65 = .ok (.bipush 23, 2) := by decide +kernel
theorem dX12_allows_67 : decode cX12_allows 67 = .ok (.invokevirtual 124, 3) := by decide +kernel
theorem dX12_allows_70 : decode cX12_allows 70 = .ok (.aload_n 0, 1) := by decide +kernel
theorem dX12_allows_71 : decode cX12_allows 71 = .ok (.bipush 21, 2) := by decide +kernel
theorem dX12_allows_73 : decode cX12_allows 73 = .ok (.invokevirtual 124, 3) := by decide +kernel
theorem dX12_allows_76 : decode cX12_allows 76 = .ok (.aload_n 0, 1) := by decide +kernel
theorem dX12_allows_77 : decode cX12_allows 77 = .ok (.iload_n 1, 1) := by decide +kernel
theorem dX12_allows_78 : decode cX12_allows 78 = .ok (.iload_n 2, 1) := by decide +kernel
theorem dX12_allows_79 : decode cX12_allows 79 = .ok (.invokevirtual 120, 3) := by decide +kernel
theorem dX12_allows_82 : decode cX12_allows 82 = .ok (.istore 5, 2) := by decide +kernel
theorem dX12_allows_84 : decode cX12_allows 84 = .ok (.aload_n 0, 1) := by decide +kernel
theorem dX12_allows_85 : decode cX12_allows 85 = .ok (.getfield 127, 3) := by decide +kernel
theorem dX12_allows_88 : decode cX12_allows 88 = .ok (.ifCond .ne 7, 3) := by decide +kernel
theorem dX12_allows_91 : decode cX12_allows 91 = .ok (.iconst (-1), 1) := by decide +kernel
theorem dX12_allows_92 : decode cX12_allows 92 = .ok (.goto 14, 3) := by decide +kernel
theorem dX12_allows_95 : decode cX12_allows 95 = .ok (.aload_n 0, 1) := by decide +kernel
theorem dX12_allows_96 : decode cX12_allows 96 = .ok (.iload_n 1, 1) := by decide +kernel
theorem dX12_allows_97 : decode cX12_allows 97 = .ok (.aload_n 0, 1) := by decide +kernel
theorem dX12_allows_98 : decode cX12_allows 98 = .ok (.getfield 39, 3) := by decide +kernel
theorem dX12_allows_101 : decode cX12_allows 101 = .ok (.iconst 0, 1) := by decide +kernel
theorem dX12_allows_102 : decode cX12_allows 102 = .ok (.iaload, 1) := by decide +kernel
theorem dX12_allows_103 : decode cX12_allows 103 = .ok (.invokevirtual 120, 3) := by decide +kernel
theorem dX12_allows_106 : decode cX12_allows 106 = .ok (.istore 6, 2) := by decide +kernel
theorem dX12_allows_108 : decode cX12_allows 108 = .ok (.iload 5, 2) := by decide +kernel
theorem dX12_allows_110 : decode cX12_allows 110 = .ok (.iconst 5, 1) := by decide +kernel
theorem dX12_allows_111 : decode cX12_allows 111 = .ok (.if_icmp .eq 9, 3) := by decide +kernel
theorem dX12_allows_114 : decode cX12_allows 114 = .ok (.iload 6, 2) := by decide +kernel
theorem dX12_allows_116 : decode cX12_allows 116 = .ok (.iconst 5, 1) := by decide +kernel
theorem dX12_allows_117 : decode cX12_allows 117 = .ok (.if_icmp .ne 5, 3) := by decide +kernel
theorem dX12_allows_120 : decode cX12_allows 120 = .ok (.iconst 0, 1) := by decide +kernel
theorem dX12_allows_121 : decode cX12_allows 121 = .ok (.ireturn, 1) := by decide +kernel
theorem dX12_allows_122 : decode cX12_allows 122 = .ok (.iload 6, 2) := by decide +kernel
theorem dX12_allows_124 : decode cX12_allows 124 = .ok (.iconst (-1), 1) := by decide +kernel
theorem dX12_allows_125 : decode cX12_allows 125 = .ok (.if_icmp .ne 29, 3) := by decide +kernel
theorem dX12_allows_128 : decode cX12_allows 128 = .ok (.iload_n 3, 1) := by decide +kernel
theorem dX12_allows_129 : decode cX12_allows 129 = .ok (.iconst 2, 1) := by decide +kernel
theorem dX12_allows_130 : decode cX12_allows 130 = .ok (.if_icmp .ne 22, 3) := by decide +kernel
theorem dX12_allows_133 : decode cX12_allows 133 = .ok (.iload 5, 2) := by decide +kernel
theorem dX12_allows_135 : decode cX12_allows 135 = .ok (.iconst 3, 1) := by decide +kernel
theorem dX12_allows_136 : decode cX12_allows 136 = .ok (.if_icmp .ne 16, 3) := by decide +kernel
theorem dX12_allows_139 : decode cX12_allows 139 = .ok (.aload_n 0, 1) := by decide +kernel
theorem dX12_allows_140 : decode cX12_allows 140 = .ok (.iload_n 1, 1) := by decide +kernel
theorem dX12_allows_141 : decode cX12_allows 141 = .ok (.iconst 3, 1) := by decide +kernel
theorem dX12_allows_142 : decode cX12_allows 142 = .ok (.invokevirtual 130, 3) := by decide +kernel
theorem dX12_allows_145 : decode cX12_allows 145 = .ok (.ifCond .eq 7, 3) := by decide +kernel
theorem dX12_allows_148 : decode cX12_allows 148 = .ok (.iconst 3, 1) := by decide +kernel
theorem dX12_allows_149 : decode cX12_allows 149 = .ok (.goto 4, 3) := by decide +kernel
theorem dX12_allows_152 : decode cX12_allows 152 = .ok (.iconst 0, 1) := by decide +kernel
theorem dX12_allows_153 : decode cX12_allows 153 = .ok (.ireturn, 1) := by decide +kernel
theorem dX12_allows_154 : decode cX12_allows 154 = .ok (.iload 5, 2) := by decide +kernel
theorem dX12_allows_156 : decode cX12_allows 156 = .ok (.iload 6, 2) := by decide +kernel
theorem dX12_allows_158 : decode cX12_allows 158 = .ok (.if_icmp .eq 15, 3) := by decide +kernel
theorem dX12_allows_161 : decode cX12_allows 161 = .ok (.aload_n 0, 1) := by decide +kernel
theorem dX12_allows_162 : decode cX12_allows 162 = .ok (.iload_n 1, 1) := by decide +kernel
theorem dX12_allows_163 : decode cX12_allows 163 = .ok (.iload 6, 2) := by decide +kernel
theorem dX12_allows_165 : decode cX12_allows 165 = .ok (.invokevirtual 133, 3) := by decide +kernel
theorem dX12_allows_168 : decode cX12_allows 168 = .ok (.ifCond .eq 5, 3) := by decide +kernel
theorem dX12_allows_171 : decode cX12_allows 171 = .ok (.iconst 1, 1) := by decide +kernel
theorem dX12_allows_172 : decode cX12_allows 172 = .ok (.ireturn, 1) := by decide +kernel
theorem dX12_allows_173 : decode cX12_allows 173 = .ok (.iload 4, 2) := by decide +kernel
theorem dX12_allows_175 : decode cX12_allows 175 = .ok (.ifCond .eq 29, 3) := by decide +kernel
theorem dX12_allows_178 : decode cX12_allows 178 = .ok (.iload 5, 2) := by decide +kernel
theorem dX12_allows_180 : decode cX12_allows 180 = .ok (.iload 6, 2) := by decide +kernel
theorem dX12_allows_182 : decode cX12_allows 182 = .ok (.if_icmp .eq 22, 3) := by decide +kernel
theorem dX12_allows_185 : decode cX12_allows 185 = .ok (.iload 5, 2) := by decide +kernel
theorem dX12_allows_187 : decode cX12_allows 187 = .ok (.iconst 4, 1) := by decide +kernel
theorem dX12_allows_188 : decode cX12_allows 188 = .ok (.if_icmp .eq 16, 3) := by decide +kernel
theorem dX12_allows_191 : decode cX12_allows 191 = .ok (.aload_n 0, 1) := by decide +kernel
theorem dX12_allows_192 : decode cX12_allows 192 = .ok (.iload_n 1, 1) := by decide +kernel
theorem dX12_allows_193 : decode cX12_allows 193 = .ok (.iconst 4, 1) := by decide +kernel
theorem dX12_allows_194 : decode cX12_allows 194 = .ok (.invokevirtual 133, 3) := by decide +kernel
theorem dX12_allows_197 : decode cX12_allows 197 = .ok (.ifCond .eq 7, 3) := by decide +kernel
theorem dX12_allows_200 : decode cX12_allows 200 = .ok (.iconst 2, 1) := by decide +kernel
theorem dX12_allows_201 : decode cX12_allows 201 = .ok (.goto 4, 3) := by decide +kernel
theorem dX12_allows_204 : decode cX12_allows 204 = .ok (.iconst 0, 1) := by decide +kernel
theorem dX12_allows_205 : decode cX12_allows 205 = .ok (.ireturn, 1) := by decide +kernel
theorem dX12_greatest_0 : decode cX12_greatest 0 = .ok (.iconst (-1), 1) := by decide +kernel
theorem dX12_greatest_1 : decode cX12_greatest 1 = .ok (.istore 4, 2) := by decide +kernel
theorem dX12_greatest_3 : decode cX12_greatest 3 = .ok (.iconst 0, 1) := by decide +kernel
theorem dX12_greatest_4 : decode cX12_greatest 4 = .ok (.istore 5, 2) := by decide +kernel
theorem dX12_greatest_6 : decode cX12_greatest 6 = .ok (.iload 5, 2) := by decide +kernel
theorem dX12_greatest_8 : decode cX12_greatest 8 = .ok (.aload_n 0, 1) := by decide +kernel
theorem dX12_greatest_9 : decode cX12_greatest 9 = .ok (.getfield 127, 3) := by decide +kernel
theorem dX12_greatest_12 : decode cX12_greatest 12 = .ok (.if_icmp .ge 66, 3) := by decide +kernel
theorem dX12_greatest_15 : decode cX12_greatest 15 = .ok (.aload_n 0, 1) := by decide +kernel
theorem dX12_greatest_16 : decode cX12_greatest 16 = .ok (.iload_n 1, 1) := by decide +kernel
theorem dX12_greatest_17 : decode cX12_greatest 17 = .ok (.aload_n 0, 1) := by decide +kernel
theorem dX12_greatest_18 : decode cX12_greatest 18 = .ok (.getfield 39, 3) := by decide +kernel
theorem dX12_greatest_21 : decode cX12_greatest 21 = .ok (.iload 5, 2) := by decide +kernel
theorem dX12_greatest_23 : decode cX12_greatest 23 = .ok (.iaload, 1) := by decide +kernel
theorem dX12_greatest_24 : decode cX12_greatest 24 = .ok (.invokevirtual 120, 3) := by decide +kernel
theorem dX12_greatest_27 : decode cX12_greatest 27 = .ok (.istore 6, 2) := by decide +kernel
theorem dX12_greatest_29 : decode cX12_greatest 29 = .ok (.iload 6, 2) := by decide +kernel
theorem dX12_greatest_31 : decode cX12_greatest 31 = .ok (.iload_n 2, 1) := by decide +kernel
theorem dX12_greatest_32 : decode cX12_greatest 32 = .ok (.if_icmp .eq 9, 3) := by decide +kernel
theorem dX12_greatest_35 : decode cX12_greatest 35 = .ok (.iload 6, 2) := by decide +kernel
theorem dX12_greatest_37 : decode cX12_greatest 37 = .ok (.iload_n 3, 1) := by decide +kernel
theorem dX12_greatest_38 : decode cX12_greatest 38 = .ok (.if_icmp .ne 34, 3) := by decide +kernel
theorem dX12_greatest_41 : decode cX12_greatest 41 = .ok (.iload 4, 2) := by decide +kernel
theorem dX12_greatest_43 : decode cX12_greatest 43 = .ok (.iconst (-1), 1) := by decide +kernel
theorem dX12_greatest_44 : decode cX12_greatest 44 = .ok (.if_icmp .eq 24, 3) := by decide +kernel
theorem dX12_greatest_47 : decode cX12_greatest 47 = .ok (.aload_n 0, 1) := by decide +kernel
theorem dX12_greatest_48 : decode cX12_greatest 48 = .ok (.getfield 39, 3) := by decide +kernel
theorem dX12_greatest_51 : decode cX12_greatest 51 = .ok (.iload 5, 2) := by decide +kernel
theorem dX12_greatest_53 : decode cX12_greatest 53 = .ok (.iaload, 1) := by decide +kernel
theorem dX12_greatest_54 : decode cX12_greatest 54 = .ok (.iconst 4, 1) := by decide +kernel
theorem dX12_greatest_55 : decode cX12_greatest 55 = .ok (.idiv, 1) := by decide +kernel
theorem dX12_greatest_56 : decode cX12_greatest 56 = .ok (.aload_n 0, 1) := by decide +kernel
theorem dX12_greatest_57 : decode cX12_greatest 57 = .ok (.getfield 39, 3) := by decide +kernel
theorem dX12_greatest_60 : decode cX12_greatest 60 = .ok (.iload 4, 2) := by decide +kernel
theorem dX12_greatest_62 : decode cX12_greatest 62 = .ok (.iaload, 1) := by decide +kernel
theorem dX12_greatest_63 : decode cX12_greatest 63 = .ok (.iconst 4, 1) := by decide +kernel
theorem dX12_greatest_64 : decode cX12_greatest 64 = .ok (.idiv, 1) := by decide +kernel
theorem dX12_greatest_65 : decode cX12_greatest 65 = .ok (.if_icmp .le 7, 3) := by decide +kernel
theorem dX12_greatest_68 : decode cX12_greatest 68 = .ok (.iload 5, 2) := by decide +kernel
theorem dX12_greatest_70 : decode cX12_greatest 70 = .ok (.istore 4, 2) := by decide +kernel
theorem dX12_greatest_72 : decode cX12_greatest 72 = .ok (.iinc 5 1, 3) := by decide +kernel
theorem dX12_greatest_75 : decode cX12_greatest 75 = .ok (.goto (-69), 3) := by decide +kernel
theorem dX12_greatest_78 : decode cX12_greatest 78 = .ok (.iload 4, 2) := by decide +kernel
theorem dX12_greatest_80 : decode cX12_greatest 80 = .ok (.ireturn, 1) := by decide +kernel
theorem dX12_winsPlainly_0 : decode cX12_winsPlainly 0 = .ok (.aload_n 0, 1) := by decide +kernel
theorem dX12_winsPlainly_1 : decode cX12_winsPlainly 1 = .ok (.bipush 31, 2) := by decide +kernel
theorem dX12_winsPlainly_3 : decode cX12_winsPlainly 3 = .ok (.invokevirtual 124, 3) := by decide +kernel
theorem dX12_winsPlainly_6 : decode cX12_winsPlainly 6 = .ok (.iconst 0, 1) := by decide +kernel
theorem dX12_winsPlainly_7 : decode cX12_winsPlainly 7 = .ok (.istore_n 2, 1) := by decide +kernel
theorem dX12_winsPlainly_8 : decode cX12_winsPlainly 8 = .ok (.iload_n 2, 1) := by decide +kernel
theorem dX12_winsPlainly_9 : decode cX12_winsPlainly 9 = .ok (.aload_n 0, 1) := by decide +kernel
theorem dX12_winsPlainly_10 : decode cX12_winsPlainly 10 = .ok (.getfield 127, 3) := by decide +kernel
theorem dX12_winsPlainly_13 : decode cX12_winsPlainly 13 = .ok (.if_icmp .ge 26, 3) := by decide +kernel
theorem dX12_winsPlainly_16 : decode cX12_winsPlainly 16 = .ok (.aload_n 0, 1) := by decide +kernel
theorem dX12_winsPlainly_17 : decode cX12_winsPlainly 17 = .ok (.iload_n 1, 1) := by decide +kernel
theorem dX12_winsPlainly_18 : decode cX12_winsPlainly 18 = .ok (.aload_n 0, 1) := by decide +kernel
theorem dX12_winsPlainly_19 : decode cX12_winsPlainly 19 = .ok (.getfield 39, 3) := by decide +kernel
theorem dX12_winsPlainly_22 : decode cX12_winsPlainly 22 = .ok (.iload_n 2, 1) := by decide +kernel
theorem dX12_winsPlainly_23 : decode cX12_winsPlainly 23 = .ok (.iaload, 1) := by decide +kernel
theorem dX12_winsPlainly_24 : decode cX12_winsPlainly 24 = .ok (.invokevirtual 120, 3) := by decide +kernel
theorem dX12_winsPlainly_27 : decode cX12_winsPlainly 27 = .ok (.iconst 5, 1) := by decide +kernel
theorem dX12_winsPlainly_28 : decode cX12_winsPlainly 28 = .ok (.if_icmp .ne 5, 3) := by decide +kernel
theorem dX12_winsPlainly_31 : decode cX12_winsPlainly 31 = .ok (.iload_n 2, 1) := by decide +kernel
theorem dX12_winsPlainly_32 : decode cX12_winsPlainly 32 = .ok (.ireturn, 1) := by decide +kernel
theorem dX12_winsPlainly_33 : decode cX12_winsPlainly 33 = .ok (.iinc 2 1, 3) := by decide +kernel
theorem dX12_winsPlainly_36 : decode cX12_winsPlainly 36 = .ok (.goto (-28), 3) := by decide +kernel
theorem dX12_winsPlainly_39 : decode cX12_winsPlainly 39 = .ok (.aload_n 0, 1) := by decide +kernel
theorem dX12_winsPlainly_40 : decode cX12_winsPlainly 40 = .ok (.iload_n 1, 1) := by decide +kernel
theorem dX12_winsPlainly_41 : decode cX12_winsPlainly 41 = .ok (.iconst 4, 1) := by decide +kernel
theorem dX12_winsPlainly_42 : decode cX12_winsPlainly 42 = .ok (.iconst 4, 1) := by decide +kernel
theorem dX12_winsPlainly_43 : decode cX12_winsPlainly 43 = .ok (.invokevirtual 135, 3) := by decide +kernel
theorem dX12_winsPlainly_46 : decode cX12_winsPlainly 46 = .ok (.istore_n 2, 1) := by decide +kernel
theorem dX12_winsPlainly_47 : decode cX12_winsPlainly 47 = .ok (.aload_n 0, 1) := by decide +kernel
theorem dX12_winsPlainly_48 : decode cX12_winsPlainly 48 = .ok (.iload_n 1, 1) := by decide +kernel
theorem dX12_winsPlainly_49 : decode cX12_winsPlainly 49 = .ok (.aload_n 0, 1) := by decide +kernel
theorem dX12_winsPlainly_50 : decode cX12_winsPlainly 50 = .ok (.getfield 39, 3) := by decide +kernel
theorem dX12_winsPlainly_53 : decode cX12_winsPlainly 53 = .ok (.iconst 0, 1) := by decide +kernel
theorem dX12_winsPlainly_54 : decode cX12_winsPlainly 54 = .ok (.iaload, 1) := by decide +kernel
theorem dX12_winsPlainly_55 : decode cX12_winsPlainly 55 = .ok (.invokevirtual 120, 3) := by decide +kernel
theorem dX12_winsPlainly_58 : decode cX12_winsPlainly 58 = .ok (.istore_n 3, 1) := by decide +kernel
theorem dX12_winsPlainly_59 : decode cX12_winsPlainly 59 = .ok (.iload_n 2, 1) := by decide +kernel
theorem dX12_winsPlainly_60 : decode cX12_winsPlainly 60 = .ok (.iconst (-1), 1) := by decide +kernel
theorem dX12_winsPlainly_61 : decode cX12_winsPlainly 61 = .ok (.if_icmp .eq 7, 3) := by decide +kernel
theorem dX12_winsPlainly_64 : decode cX12_winsPlainly 64 = .ok (.iload_n 2, 1) := by decide +kernel
theorem dX12_winsPlainly_65 : decode cX12_winsPlainly 65 = .ok (.goto 10, 3) := by decide +kernel
theorem dX12_winsPlainly_68 : decode cX12_winsPlainly 68 = .ok (.aload_n 0, 1) := by decide +kernel
theorem dX12_winsPlainly_69 : decode cX12_winsPlainly 69 = .ok (.iload_n 1, 1) := by decide +kernel
theorem dX12_winsPlainly_70 : decode cX12_winsPlainly 70 = .ok (.iload_n 3, 1) := by decide +kernel
theorem dX12_winsPlainly_71 : decode cX12_winsPlainly 71 = .ok (.iload_n 3, 1) := by decide +kernel
theorem dX12_winsPlainly_72 : decode cX12_winsPlainly 72 = .ok (.invokevirtual 135, 3) := by decide +kernel
theorem dX12_winsPlainly_75 : decode cX12_winsPlainly 75 = .ok (.ireturn, 1) := by decide +kernel
theorem dX12_wins_0 : decode cX12_wins 0 = .ok (.aload_n 0, 1) := by decide +kernel
theorem dX12_wins_1 : decode cX12_wins 1 = .ok (.getfield 8, 3) := by decide +kernel
theorem dX12_wins_4 : decode cX12_wins 4 = .ok (.iload_n 1, 1) := by decide +kernel
theorem dX12_wins_5 : decode cX12_wins 5 = .ok (.iconst 2, 1) := by decide +kernel
theorem dX12_wins_6 : decode cX12_wins 6 = .ok (.iadd, 1) := by decide +kernel
theorem dX12_wins_7 : decode cX12_wins 7 = .ok (.iaload, 1) := by decide +kernel
theorem dX12_wins_8 : decode cX12_wins 8 = .ok (.iconst 4, 1) := by decide +kernel
theorem dX12_wins_9 : decode cX12_wins 9 = .ok (.if_icmp .ne 9, 3) := by decide +kernel
theorem dX12_wins_12 : decode cX12_wins 12 = .ok (.aload_n 0, 1) := by decide +kernel
theorem dX12_wins_13 : decode cX12_wins 13 = .ok (.bipush 34, 2) := by decide +kernel
theorem dX12_wins_15 : decode cX12_wins 15 = .ok (.invokevirtual 124, 3) := by decide +kernel
theorem dX12_wins_18 : decode cX12_wins 18 = .ok (.aload_n 0, 1) := by decide +kernel
theorem dX12_wins_19 : decode cX12_wins 19 = .ok (.getfield 8, 3) := by decide +kernel
theorem dX12_wins_22 : decode cX12_wins 22 = .ok (.iload_n 1, 1) := by decide +kernel
theorem dX12_wins_23 : decode cX12_wins 23 = .ok (.iconst 3, 1) := by decide +kernel
theorem dX12_wins_24 : decode cX12_wins 24 = .ok (.iadd, 1) := by decide +kernel
theorem dX12_wins_25 : decode cX12_wins 25 = .ok (.iaload, 1) := by decide +kernel
theorem dX12_wins_26 : decode cX12_wins 26 = .ok (.istore_n 2, 1) := by decide +kernel
theorem dX12_wins_27 : decode cX12_wins 27 = .ok (.aload_n 0, 1) := by decide +kernel
theorem dX12_wins_28 : decode cX12_wins 28 = .ok (.iload_n 1, 1) := by decide +kernel
theorem dX12_wins_29 : decode cX12_wins 29 = .ok (.aload_n 0, 1) := by decide +kernel
theorem dX12_wins_30 : decode cX12_wins 30 = .ok (.getfield 39, 3) := by decide +kernel
theorem dX12_wins_33 : decode cX12_wins 33 = .ok (.iconst 0, 1) := by decide +kernel
theorem dX12_wins_34 : decode cX12_wins 34 = .ok (.iaload, 1) := by decide +kernel
theorem dX12_wins_35 : decode cX12_wins 35 = .ok (.invokevirtual 120, 3) := by decide +kernel
theorem dX12_wins_38 : decode cX12_wins 38 = .ok (.istore_n 3, 1) := by decide +kernel
theorem dX12_wins_39 : decode cX12_wins 39 = .ok (.iload_n 2, 1) := by decide +kernel
theorem dX12_wins_40 : decode cX12_wins 40 = .ok (.iconst 2, 1) := by decide +kernel
theorem dX12_wins_41 : decode cX12_wins 41 = .ok (.if_icmp .ne 26, 3) := by decide +kernel
theorem dX12_wins_44 : decode cX12_wins 44 = .ok (.aload_n 0, 1) := by decide +kernel
theorem dX12_wins_45 : decode cX12_wins 45 = .ok (.bipush 32, 2) := by decide +kernel
theorem dX12_wins_47 : decode cX12_wins 47 = .ok (.invokevirtual 124, 3) := by decide +kernel
theorem dX12_wins_50 : decode cX12_wins 50 = .ok (.iload_n 3, 1) := by decide +kernel
theorem dX12_wins_51 : decode cX12_wins 51 = .ok (.iconst 5, 1) := by decide +kernel
theorem dX12_wins_52 : decode cX12_wins 52 = .ok (.if_icmp .ne 7, 3) := by decide +kernel
theorem dX12_wins_55 : decode cX12_wins 55 = .ok (.iconst 0, 1) := by decide +kernel
theorem dX12_wins_56 : decode cX12_wins 56 = .ok (.goto 10, 3) := by decide +kernel
theorem dX12_wins_59 : decode cX12_wins 59 = .ok (.aload_n 0, 1) := by decide +kernel
theorem dX12_wins_60 : decode cX12_wins 60 = .ok (.iload_n 1, 1) := by decide +kernel
theorem dX12_wins_61 : decode cX12_wins 61 = .ok (.iload_n 3, 1) := by decide +kernel
theorem dX12_wins_62 : decode cX12_wins 62 = .ok (.iload_n 3, 1) := by decide +kernel
theorem dX12_wins_63 : decode cX12_wins 63 = .ok (.invokevirtual 135, 3) := by decide +kernel
theorem dX12_wins_66 : decode cX12_wins 66 = .ok (.ireturn, 1) := by decide +kernel
theorem dX12_wins_67 : decode cX12_wins 67 = .ok (.iload_n 2, 1) := by decide +kernel
theorem dX12_wins_68 : decode cX12_wins 68 = .ok (.iconst 3, 1) := by decide +kernel
theorem dX12_wins_69 : decode cX12_wins 69 = .ok (.if_icmp .ne 72, 3) := by decide +kernel
theorem dX12_wins_72 : decode cX12_wins 72 = .ok (.aload_n 0, 1) := by decide +kernel
theorem dX12_wins_73 : decode cX12_wins 73 = .ok (.bipush 33, 2) := by decide +kernel
theorem dX12_wins_75 : decode cX12_wins 75 = .ok (.invokevirtual 124, 3) := by decide +kernel
theorem dX12_wins_78 : decode cX12_wins 78 = .ok (.aload_n 0, 1) := by decide +kernel
theorem dX12_wins_79 : decode cX12_wins 79 = .ok (.getfield 8, 3) := by decide +kernel
theorem dX12_wins_82 : decode cX12_wins 82 = .ok (.iload_n 1, 1) := by decide +kernel
theorem dX12_wins_83 : decode cX12_wins 83 = .ok (.bipush 11, 2) := by decide +kernel
theorem dX12_wins_85 : decode cX12_wins 85 = .ok (.iadd, 1) := by decide +kernel
theorem dX12_wins_86 : decode cX12_wins 86 = .ok (.iaload, 1) := by decide +kernel
theorem dX12_wins_87 : decode cX12_wins 87 = .ok (.istore 4, 2) := by decide +kernel
theorem dX12_wins_89 : decode cX12_wins 89 = .ok (.aload_n 0, 1) := by decide +kernel
theorem dX12_wins_90 : decode cX12_wins 90 = .ok (.iload_n 1, 1) := by decide +kernel
theorem dX12_wins_91 : decode cX12_wins 91 = .ok (.iconst 5, 1) := by decide +kernel
theorem dX12_wins_92 : decode cX12_wins 92 = .ok (.iconst 5, 1) := by decide +kernel
theorem dX12_wins_93 : decode cX12_wins 93 = .ok (.invokevirtual 135, 3) := by decide +kernel
theorem dX12_wins_96 : decode cX12_wins 96 = .ok (.iconst (-1), 1) := by decide +kernel
theorem dX12_wins_97 : decode cX12_wins 97 = .ok (.if_icmp .eq 7, 3) := by decide +kernel
theorem dX12_wins_100 : decode cX12_wins 100 = .ok (.iconst 1, 1) := by decide +kernel
theorem dX12_wins_101 : decode cX12_wins 101 = .ok (.goto 4, 3) := by decide +kernel
theorem dX12_wins_104 : decode cX12_wins 104 = .ok (.iconst 0, 1) := by decide +kernel
theorem dX12_wins_105 : decode cX12_wins 105 = .ok (.istore 5, 2) := by decide +kernel
theorem dX12_wins_107 : decode cX12_wins 107 = .ok (.iload 4, 2) := by decide +kernel
theorem dX12_wins_109 : decode cX12_wins 109 = .ok (.iconst (-1), 1) := by decide +kernel
theorem dX12_wins_110 : decode cX12_wins 110 = .ok (.if_icmp .eq 8, 3) := by decide +kernel
theorem dX12_wins_113 : decode cX12_wins 113 = .ok (.iload 5, 2) := by decide +kernel
theorem dX12_wins_115 : decode cX12_wins 115 = .ok (.ifCond .eq 7, 3) := by decide +kernel
theorem dX12_wins_118 : decode cX12_wins 118 = .ok (.iconst (-1), 1) := by decide +kernel
theorem dX12_wins_119 : decode cX12_wins 119 = .ok (.goto 11, 3) := by decide +kernel
theorem dX12_wins_122 : decode cX12_wins 122 = .ok (.aload_n 0, 1) := by decide +kernel
theorem dX12_wins_123 : decode cX12_wins 123 = .ok (.iload_n 1, 1) := by decide +kernel
theorem dX12_wins_124 : decode cX12_wins 124 = .ok (.iconst 4, 1) := by decide +kernel
theorem dX12_wins_125 : decode cX12_wins 125 = .ok (.iload 4, 2) := by decide +kernel
theorem dX12_wins_127 : decode cX12_wins 127 = .ok (.invokevirtual 135, 3) := by decide +kernel
theorem dX12_wins_130 : decode cX12_wins 130 = .ok (.istore 6, 2) := by decide +kernel
theorem dX12_wins_132 : decode cX12_wins 132 = .ok (.iload 6, 2) := by decide +kernel
theorem dX12_wins_134 : decode cX12_wins 134 = .ok (.iconst (-1), 1) := by decide +kernel
theorem dX12_wins_135 : decode cX12_wins 135 = .ok (.if_icmp .eq 6, 3) := by decide +kernel
theorem dX12_wins_138 : decode cX12_wins 138 = .ok (.iload 6, 2) := by decide +kernel
theorem dX12_wins_140 : decode cX12_wins 140 = .ok (.ireturn, 1) := by decide +kernel
theorem dX12_wins_141 : decode cX12_wins 141 = .ok (.aload_n 0, 1) := by decide +kernel
theorem dX12_wins_142 : decode cX12_wins 142 = .ok (.iload_n 1, 1) := by decide +kernel
theorem dX12_wins_143 : decode cX12_wins 143 = .ok (.invokevirtual 139, 3) := by decide +kernel
theorem dX12_wins_146 : decode cX12_wins 146 = .ok (.ireturn, 1) := by decide +kernel
theorem dX12_scorePlainly_0 : decode cX12_scorePlainly 0 = .ok (.iload_n 2, 1) := by decide +kernel
theorem dX12_scorePlainly_1 : decode cX12_scorePlainly 1 = .ok (.ifCond .eq 9, 3) := by decide +kernel
theorem dX12_scorePlainly_4 : decode cX12_scorePlainly 4 = .ok (.aload_n 0, 1) := by decide +kernel
theorem dX12_scorePlainly_5 : decode cX12_scorePlainly 5 = .ok (.bipush 42, 2) := by decide +kernel
theorem dX12_scorePlainly_7 : decode cX12_scorePlainly 7 = .ok (.invokevirtual 124, 3) := by decide +kernel
theorem dX12_scorePlainly_10 : decode cX12_scorePlainly 10 = .ok (.aload_n 0, 1) := by decide +kernel
theorem dX12_scorePlainly_11 : decode cX12_scorePlainly 11 = .ok (.bipush 41, 2) := by decide +kernel
theorem dX12_scorePlainly_13 : decode cX12_scorePlainly 13 = .ok (.invokevirtual 124, 3) := by decide +kernel
theorem dX12_scorePlainly_16 : decode cX12_scorePlainly 16 = .ok (.iconst 1, 1) := by decide +kernel
theorem dX12_scorePlainly_17 : decode cX12_scorePlainly 17 = .ok (.istore_n 3, 1) := by decide +kernel
theorem dX12_scorePlainly_18 : decode cX12_scorePlainly 18 = .ok (.iconst 0, 1) := by decide +kernel
theorem dX12_scorePlainly_19 : decode cX12_scorePlainly 19 = .ok (.istore 4, 2) := by decide +kernel
theorem dX12_scorePlainly_21 : decode cX12_scorePlainly 21 = .ok (.iload 4, 2) := by decide +kernel
theorem dX12_scorePlainly_23 : decode cX12_scorePlainly 23 = .ok (.aload_n 0, 1) := by decide +kernel
theorem dX12_scorePlainly_24 : decode cX12_scorePlainly 24 = .ok (.getfield 127, 3) := by decide +kernel
theorem dX12_scorePlainly_27 : decode cX12_scorePlainly 27 = .ok (.if_icmp .ge 37, 3) := by decide +kernel
theorem dX12_scorePlainly_30 : decode cX12_scorePlainly 30 = .ok (.iload_n 2, 1) := by decide +kernel
theorem dX12_scorePlainly_31 : decode cX12_scorePlainly 31 = .ok (.ifCond .eq 33, 3) := by decide +kernel
theorem dX12_scorePlainly_34 : decode cX12_scorePlainly 34 = .ok (.iload_n 3, 1) := by decide +kernel
theorem dX12_scorePlainly_35 : decode cX12_scorePlainly 35 = .ok (.aload_n 0, 1) := by decide +kernel
theorem dX12_scorePlainly_36 : decode cX12_scorePlainly 36 = .ok (.iload_n 1, 1) := by decide +kernel
theorem dX12_scorePlainly_37 : decode cX12_scorePlainly 37 = .ok (.aload_n 0, 1) := by decide +kernel
theorem dX12_scorePlainly_38 : decode cX12_scorePlainly 38 = .ok (.getfield 39, 3) := by decide +kernel
theorem dX12_scorePlainly_41 : decode cX12_scorePlainly 41 = .ok (.iload 4, 2) := by decide +kernel
theorem dX12_scorePlainly_43 : decode cX12_scorePlainly 43 = .ok (.iaload, 1) := by decide +kernel
theorem dX12_scorePlainly_44 : decode cX12_scorePlainly 44 = .ok (.invokevirtual 120, 3) := by decide +kernel
theorem dX12_scorePlainly_47 : decode cX12_scorePlainly 47 = .ok (.iconst 4, 1) := by decide +kernel
theorem dX12_scorePlainly_48 : decode cX12_scorePlainly 48 = .ok (.if_icmp .ne 7, 3) := by decide +kernel
theorem dX12_scorePlainly_51 : decode cX12_scorePlainly 51 = .ok (.iconst 1, 1) := by decide +kernel
theorem dX12_scorePlainly_52 : decode cX12_scorePlainly 52 = .ok (.goto 4, 3) := by decide +kernel
theorem dX12_scorePlainly_55 : decode cX12_scorePlainly 55 = .ok (.iconst 0, 1) := by decide +kernel
theorem dX12_scorePlainly_56 : decode cX12_scorePlainly 56 = .ok (.iadd, 1) := by decide +kernel
theorem dX12_scorePlainly_57 : decode cX12_scorePlainly 57 = .ok (.istore_n 3, 1) := by decide +kernel
theorem dX12_scorePlainly_58 : decode cX12_scorePlainly 58 = .ok (.iinc 4 1, 3) := by decide +kernel
theorem dX12_scorePlainly_61 : decode cX12_scorePlainly 61 = .ok (.goto (-40), 3) := by decide +kernel
theorem dX12_scorePlainly_64 : decode cX12_scorePlainly 64 = .ok (.iload_n 3, 1) := by decide +kernel
theorem dX12_scorePlainly_65 : decode cX12_scorePlainly 65 = .ok (.ireturn, 1) := by decide +kernel
theorem dX12_score_0 : decode cX12_score 0 = .ok (.iconst 0, 1) := by decide +kernel
theorem dX12_score_1 : decode cX12_score 1 = .ok (.istore_n 3, 1) := by decide +kernel
theorem dX12_score_2 : decode cX12_score 2 = .ok (.aload_n 0, 1) := by decide +kernel
theorem dX12_score_3 : decode cX12_score 3 = .ok (.getfield 8, 3) := by decide +kernel
theorem dX12_score_6 : decode cX12_score 6 = .ok (.iload_n 1, 1) := by decide +kernel
theorem dX12_score_7 : decode cX12_score 7 = .ok (.iconst 2, 1) := by decide +kernel
theorem dX12_score_8 : decode cX12_score 8 = .ok (.iadd, 1) := by decide +kernel
theorem dX12_score_9 : decode cX12_score 9 = .ok (.iaload, 1) := by decide +kernel
theorem dX12_score_10 : decode cX12_score 10 = .ok (.iconst 4, 1) := by decide +kernel
theorem dX12_score_11 : decode cX12_score 11 = .ok (.if_icmp .ne 11, 3) := by decide +kernel
theorem dX12_score_14 : decode cX12_score 14 = .ok (.aload_n 0, 1) := by decide +kernel
theorem dX12_score_15 : decode cX12_score 15 = .ok (.bipush 45, 2) := by decide +kernel
theorem dX12_score_17 : decode cX12_score 17 = .ok (.invokevirtual 124, 3) := by decide +kernel
theorem dX12_score_20 : decode cX12_score 20 = .ok (.iconst 1, 1) := by decide +kernel
theorem dX12_score_21 : decode cX12_score 21 = .ok (.istore_n 3, 1) := by decide +kernel
theorem dX12_score_22 : decode cX12_score 22 = .ok (.aload_n 0, 1) := by decide +kernel
theorem dX12_score_23 : decode cX12_score 23 = .ok (.getfield 8, 3) := by decide +kernel
theorem dX12_score_26 : decode cX12_score 26 = .ok (.iload_n 1, 1) := by decide +kernel
theorem dX12_score_27 : decode cX12_score 27 = .ok (.iconst 4, 1) := by decide +kernel
theorem dX12_score_28 : decode cX12_score 28 = .ok (.iadd, 1) := by decide +kernel
theorem dX12_score_29 : decode cX12_score 29 = .ok (.iaload, 1) := by decide +kernel
theorem dX12_score_30 : decode cX12_score 30 = .ok (.istore 4, 2) := by decide +kernel
theorem dX12_score_32 : decode cX12_score 32 = .ok (.iload 4, 2) := by decide +kernel
theorem dX12_score_34 : decode cX12_score 34 = .ok (.iconst 2, 1) := by decide +kernel
theorem dX12_score_35 : decode cX12_score 35 = .ok (.if_icmp .ne 58, 3) := by decide +kernel
theorem dX12_score_38 : decode cX12_score 38 = .ok (.aload_n 0, 1) := by decide +kernel
theorem dX12_score_39 : decode cX12_score 39 = .ok (.bipush 43, 2) := by decide +kernel
theorem dX12_score_41 : decode cX12_score 41 = .ok (.invokevirtual 124, 3) := by decide +kernel
theorem dX12_score_44 : decode cX12_score 44 = .ok (.iconst 0, 1) := by decide +kernel
theorem dX12_score_45 : decode cX12_score 45 = .ok (.istore 5, 2) := by decide +kernel
theorem dX12_score_47 : decode cX12_score 47 = .ok (.iconst 0, 1) := by decide +kernel
theorem dX12_score_48 : decode cX12_score 48 = .ok (.istore 6, 2) := by decide +kernel
theorem dX12_score_50 : decode cX12_score 50 = .ok (.iload 6, 2) := by decide +kernel
theorem dX12_score_52 : decode cX12_score 52 = .ok (.aload_n 0, 1) := by decide +kernel
theorem dX12_score_53 : decode cX12_score 53 = .ok (.getfield 127, 3) := by decide +kernel
theorem dX12_score_56 : decode cX12_score 56 = .ok (.if_icmp .ge 32, 3) := by decide +kernel
theorem dX12_score_59 : decode cX12_score 59 = .ok (.iload 5, 2) := by decide +kernel
theorem dX12_score_61 : decode cX12_score 61 = .ok (.aload_n 0, 1) := by decide +kernel
theorem dX12_score_62 : decode cX12_score 62 = .ok (.getfield 39, 3) := by decide +kernel
theorem dX12_score_65 : decode cX12_score 65 = .ok (.iload 6, 2) := by decide +kernel
theorem dX12_score_67 : decode cX12_score 67 = .ok (.iaload, 1) := by decide +kernel
theorem dX12_score_68 : decode cX12_score 68 = .ok (.iconst 4, 1) := by decide +kernel
theorem dX12_score_69 : decode cX12_score 69 = .ok (.irem, 1) := by decide +kernel
theorem dX12_score_70 : decode cX12_score 70 = .ok (.iconst 3, 1) := by decide +kernel
theorem dX12_score_71 : decode cX12_score 71 = .ok (.if_icmp .ne 7, 3) := by decide +kernel
theorem dX12_score_74 : decode cX12_score 74 = .ok (.iconst 1, 1) := by decide +kernel
theorem dX12_score_75 : decode cX12_score 75 = .ok (.goto 4, 3) := by decide +kernel
theorem dX12_score_78 : decode cX12_score 78 = .ok (.iconst 0, 1) := by decide +kernel
theorem dX12_score_79 : decode cX12_score 79 = .ok (.iadd, 1) := by decide +kernel
theorem dX12_score_80 : decode cX12_score 80 = .ok (.istore 5, 2) := by decide +kernel
theorem dX12_score_82 : decode cX12_score 82 = .ok (.iinc 6 1, 3) := by decide +kernel
theorem dX12_score_85 : decode cX12_score 85 = .ok (.goto (-35), 3) := by decide +kernel
theorem dX12_score_88 : decode cX12_score 88 = .ok (.iload_n 3, 1) := by decide +kernel
theorem dX12_score_89 : decode cX12_score 89 = .ok (.iload 5, 2) := by decide +kernel
theorem dX12_score_91 : decode cX12_score 91 = .ok (.isub, 1) := by decide +kernel
theorem dX12_score_92 : decode cX12_score 92 = .ok (.ireturn, 1) := by decide +kernel
theorem dX12_score_93 : decode cX12_score 93 = .ok (.iload 4, 2) := by decide +kernel
theorem dX12_score_95 : decode cX12_score 95 = .ok (.iconst 3, 1) := by decide +kernel
theorem dX12_score_96 : decode cX12_score 96 = .ok (.if_icmp .ne 49, 3) := by decide +kernel
theorem dX12_score_99 : decode cX12_score 99 = .ok (.aload_n 0, 1) := by decide +kernel
theorem dX12_score_100 : decode cX12_score 100 = .ok (.bipush 44, 2) := by decide +kernel
theorem dX12_score_102 : decode cX12_score 102 = .ok (.invokevirtual 124, 3) := by decide +kernel
theorem dX12_score_105 : decode cX12_score 105 = .ok (.aload_n 0, 1) := by decide +kernel
theorem dX12_score_106 : decode cX12_score 106 = .ok (.iload_n 1, 1) := by decide +kernel
theorem dX12_score_107 : decode cX12_score 107 = .ok (.iconst 1, 1) := by decide +kernel
theorem dX12_score_108 : decode cX12_score 108 = .ok (.invokevirtual 143, 3) := by decide +kernel
theorem dX12_score_111 : decode cX12_score 111 = .ok (.istore 5, 2) := by decide +kernel
theorem dX12_score_113 : decode cX12_score 113 = .ok (.iload_n 3, 1) := by decide +kernel
theorem dX12_score_114 : decode cX12_score 114 = .ok (.aload_n 0, 1) := by decide +kernel
theorem dX12_score_115 : decode cX12_score 115 = .ok (.getfield 39, 3) := by decide +kernel
theorem dX12_score_118 : decode cX12_score 118 = .ok (.iload_n 2, 1) := by decide +kernel
theorem dX12_score_119 : decode cX12_score 119 = .ok (.iaload, 1) := by decide +kernel
theorem dX12_score_120 : decode cX12_score 120 = .ok (.iconst 4, 1) := by decide +kernel
theorem dX12_score_121 : decode cX12_score 121 = .ok (.irem, 1) := by decide +kernel
theorem dX12_score_122 : decode cX12_score 122 = .ok (.aload_n 0, 1) := by decide +kernel
theorem dX12_score_123 : decode cX12_score 123 = .ok (.getfield 8, 3) := by decide +kernel
theorem dX12_score_126 : decode cX12_score 126 = .ok (.iload_n 1, 1) := by decide +kernel
theorem dX12_score_127 : decode cX12_score 127 = .ok (.bipush 11, 2) := by decide +kernel
theorem dX12_score_129 : decode cX12_score 129 = .ok (.iadd, 1) := by decide +kernel
theorem dX12_score_130 : decode cX12_score 130 = .ok (.iaload, 1) := by decide +kernel
theorem dX12_score_131 : decode cX12_score 131 = .ok (.if_icmp .ne 10, 3) := by decide +kernel
theorem dX12_score_134 : decode cX12_score 134 = .ok (.iconst 2, 1) := by decide +kernel
theorem dX12_score_135 : decode cX12_score 135 = .ok (.iload 5, 2) := by decide +kernel
theorem dX12_score_137 : decode cX12_score 137 = .ok (.imul, 1) := by decide +kernel
theorem dX12_score_138 : decode cX12_score 138 = .ok (.goto 5, 3) := by decide +kernel
theorem dX12_score_141 : decode cX12_score 141 = .ok (.iload 5, 2) := by decide +kernel
theorem dX12_score_143 : decode cX12_score 143 = .ok (.iadd, 1) := by decide +kernel
theorem dX12_score_144 : decode cX12_score 144 = .ok (.ireturn, 1) := by decide +kernel
theorem dX12_score_145 : decode cX12_score 145 = .ok (.iload_n 3, 1) := by decide +kernel
theorem dX12_score_146 : decode cX12_score 146 = .ok (.aload_n 0, 1) := by decide +kernel
theorem dX12_score_147 : decode cX12_score 147 = .ok (.iload_n 1, 1) := by decide +kernel
theorem dX12_score_148 : decode cX12_score 148 = .ok (.iload 4, 2) := by decide +kernel
theorem dX12_score_150 : decode cX12_score 150 = .ok (.iconst 1, 1) := by decide +kernel
theorem dX12_score_151 : decode cX12_score 151 = .ok (.if_icmp .ne 7, 3) := by decide +kernel
theorem dX12_score_154 : decode cX12_score 154 = .ok (.iconst 1, 1) := by decide +kernel
theorem dX12_score_155 : decode cX12_score 155 = .ok (.goto 4, 3) := by decide +kernel
theorem dX12_score_158 : decode cX12_score 158 = .ok (.iconst 0, 1) := by decide +kernel
theorem dX12_score_159 : decode cX12_score 159 = .ok (.invokevirtual 143, 3) := by decide +kernel
theorem dX12_score_162 : decode cX12_score 162 = .ok (.iadd, 1) := by decide +kernel
theorem dX12_score_163 : decode cX12_score 163 = .ok (.ireturn, 1) := by decide +kernel
theorem dX12_settle_0 : decode cX12_settle 0 = .ok (.aload_n 0, 1) := by decide +kernel
theorem dX12_settle_1 : decode cX12_settle 1 = .ok (.getfield 8, 3) := by decide +kernel
theorem dX12_settle_4 : decode cX12_settle 4 = .ok (.iload_n 1, 1) := by decide +kernel
theorem dX12_settle_5 : decode cX12_settle 5 = .ok (.iconst 2, 1) := by decide +kernel
theorem dX12_settle_6 : decode cX12_settle 6 = .ok (.iadd, 1) := by decide +kernel
theorem dX12_settle_7 : decode cX12_settle 7 = .ok (.iaload, 1) := by decide +kernel
theorem dX12_settle_8 : decode cX12_settle 8 = .ok (.iconst 4, 1) := by decide +kernel
theorem dX12_settle_9 : decode cX12_settle 9 = .ok (.if_icmp .ne 9, 3) := by decide +kernel
theorem dX12_settle_12 : decode cX12_settle 12 = .ok (.aload_n 0, 1) := by decide +kernel
theorem dX12_settle_13 : decode cX12_settle 13 = .ok (.bipush 53, 2) := by decide +kernel
theorem dX12_settle_15 : decode cX12_settle 15 = .ok (.invokevirtual 124, 3) := by decide +kernel
theorem dX12_settle_18 : decode cX12_settle 18 = .ok (.aload_n 0, 1) := by decide +kernel
theorem dX12_settle_19 : decode cX12_settle 19 = .ok (.getfield 8, 3) := by decide +kernel
theorem dX12_settle_22 : decode cX12_settle 22 = .ok (.iload_n 1, 1) := by decide +kernel
theorem dX12_settle_23 : decode cX12_settle 23 = .ok (.bipush 17, 2) := by decide +kernel
theorem dX12_settle_25 : decode cX12_settle 25 = .ok (.iadd, 1) := by decide +kernel
theorem dX12_settle_26 : decode cX12_settle 26 = .ok (.iload_n 2, 1) := by decide +kernel
theorem dX12_settle_27 : decode cX12_settle 27 = .ok (.iadd, 1) := by decide +kernel
theorem dX12_settle_28 : decode cX12_settle 28 = .ok (.iaload, 1) := by decide +kernel
theorem dX12_settle_29 : decode cX12_settle 29 = .ok (.istore_n 3, 1) := by decide +kernel
theorem dX12_settle_30 : decode cX12_settle 30 = .ok (.aload_n 0, 1) := by decide +kernel
theorem dX12_settle_31 : decode cX12_settle 31 = .ok (.getfield 8, 3) := by decide +kernel
theorem dX12_settle_34 : decode cX12_settle 34 = .ok (.iload_n 1, 1) := by decide +kernel
theorem dX12_settle_35 : decode cX12_settle 35 = .ok (.iconst 4, 1) := by decide +kernel
theorem dX12_settle_36 : decode cX12_settle 36 = .ok (.iadd, 1) := by decide +kernel
theorem dX12_settle_37 : decode cX12_settle 37 = .ok (.iaload, 1) := by decide +kernel
theorem dX12_settle_38 : decode cX12_settle 38 = .ok (.iconst 3, 1) := by decide +kernel
theorem dX12_settle_39 : decode cX12_settle 39 = .ok (.if_icmp .ne 79, 3) := by decide +kernel
theorem dX12_settle_42 : decode cX12_settle 42 = .ok (.aload_n 0, 1) := by decide +kernel
theorem dX12_settle_43 : decode cX12_settle 43 = .ok (.bipush 52, 2) := by decide +kernel
theorem dX12_settle_45 : decode cX12_settle 45 = .ok (.invokevirtual 124, 3) := by decide +kernel
theorem dX12_settle_48 : decode cX12_settle 48 = .ok (.aload_n 0, 1) := by decide +kernel
theorem dX12_settle_49 : decode cX12_settle 49 = .ok (.getfield 8, 3) := by decide +kernel
theorem dX12_settle_52 : decode cX12_settle 52 = .ok (.iload_n 1, 1) := by decide +kernel
theorem dX12_settle_53 : decode cX12_settle 53 = .ok (.bipush 10, 2) := by decide +kernel
theorem dX12_settle_55 : decode cX12_settle 55 = .ok (.iadd, 1) := by decide +kernel
theorem dX12_settle_56 : decode cX12_settle 56 = .ok (.iaload, 1) := by decide +kernel
theorem dX12_settle_57 : decode cX12_settle 57 = .ok (.istore 4, 2) := by decide +kernel
theorem dX12_settle_59 : decode cX12_settle 59 = .ok (.aload_n 0, 1) := by decide +kernel
theorem dX12_settle_60 : decode cX12_settle 60 = .ok (.getfield 8, 3) := by decide +kernel
theorem dX12_settle_63 : decode cX12_settle 63 = .ok (.iload_n 1, 1) := by decide +kernel
theorem dX12_settle_64 : decode cX12_settle 64 = .ok (.bipush 15, 2) := by decide +kernel
theorem dX12_settle_66 : decode cX12_settle 66 = .ok (.iadd, 1) := by decide +kernel
theorem dX12_settle_67 : decode cX12_settle 67 = .ok (.iload_n 2, 1) := by decide +kernel
theorem dX12_settle_68 : decode cX12_settle 68 = .ok (.iadd, 1) := by decide +kernel
theorem dX12_settle_69 : decode cX12_settle 69 = .ok (.iaload, 1) := by decide +kernel
theorem dX12_settle_70 : decode cX12_settle 70 = .ok (.istore 5, 2) := by decide +kernel
theorem dX12_settle_72 : decode cX12_settle 72 = .ok (.iload 4, 2) := by decide +kernel
theorem dX12_settle_74 : decode cX12_settle 74 = .ok (.ifCond .le 44, 3) := by decide +kernel
theorem dX12_settle_77 : decode cX12_settle 77 = .ok (.aload_n 0, 1) := by decide +kernel
theorem dX12_settle_78 : decode cX12_settle 78 = .ok (.getfield 8, 3) := by decide +kernel
theorem dX12_settle_81 : decode cX12_settle 81 = .ok (.iload_n 1, 1) := by decide +kernel
theorem dX12_settle_82 : decode cX12_settle 82 = .ok (.bipush 12, 2) := by decide +kernel
theorem dX12_settle_84 : decode cX12_settle 84 = .ok (.iadd, 1) := by decide +kernel
theorem dX12_settle_85 : decode cX12_settle 85 = .ok (.iaload, 1) := by decide +kernel
theorem dX12_settle_86 : decode cX12_settle 86 = .ok (.iconst 2, 1) := by decide +kernel
theorem dX12_settle_87 : decode cX12_settle 87 = .ok (.irem, 1) := by decide +kernel
theorem dX12_settle_88 : decode cX12_settle 88 = .ok (.iload_n 2, 1) := by decide +kernel
theorem dX12_settle_89 : decode cX12_settle 89 = .ok (.if_icmp .ne 29, 3) := by decide +kernel
theorem dX12_settle_92 : decode cX12_settle 92 = .ok (.iload 5, 2) := by decide +kernel
theorem dX12_settle_94 : decode cX12_settle 94 = .ok (.iload 4, 2) := by decide +kernel
theorem dX12_settle_96 : decode cX12_settle 96 = .ok (.if_icmp .lt 13, 3) := by decide +kernel
theorem dX12_settle_99 : decode cX12_settle 99 = .ok (.iload_n 3, 1) := by decide +kernel
