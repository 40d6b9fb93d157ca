theorem dX12_settle_100 : decode cX12_settle 100 = .ok (.bipush 10, 2) := by decide +kernel
theorem dX12_settle_102 : decode cX12_settle 102 = .ok (.iload 4, 2) := by decide +kernel
theorem dX12_settle_104 : decode cX12_settle 104 = .ok (.imul, 1) := by decide +kernel
theorem dX12_settle_105 : decode cX12_settle 105 = .ok (.iadd, 1) := by decide +kernel
theorem dX12_settle_106 : decode cX12_settle 106 = .ok (.goto 11, 3) := by decide +kernel
theorem dX12_settle_109 : decode cX12_settle 109 = .ok (.bipush 10, 2) := by decide +kernel
theorem dX12_settle_111 : decode cX12_settle 111 = .ok (.iload 5, 2) := by decide +kernel
theorem dX12_settle_113 : decode cX12_settle 113 = .ok (.iload 4, 2) := by decide +kernel
theorem dX12_settle_115 : decode cX12_settle 115 = .ok (.isub, 1) := by decide +kernel
theorem dX12_settle_116 : decode cX12_settle 116 = .ok (.imul, 1) := by decide +kernel
theorem dX12_settle_117 : decode cX12_settle 117 = .ok (.istore_n 3, 1) := by decide +kernel
theorem dX12_settle_118 : decode cX12_settle 118 = .ok (.aload_n 0, 1) := by decide +kernel
theorem dX12_settle_119 : decode cX12_settle 119 = .ok (.bipush 51, 2) := by decide +kernel
theorem dX12_settle_121 : decode cX12_settle 121 = .ok (.invokevirtual 124, 3) := by decide +kernel
theorem dX12_settle_124 : decode cX12_settle 124 = .ok (.iload_n 3, 1) := by decide +kernel
theorem dX12_settle_125 : decode cX12_settle 125 = .ok (.aload_n 0, 1) := by decide +kernel
theorem dX12_settle_126 : decode cX12_settle 126 = .ok (.getfield 8, 3) := by decide +kernel
theorem dX12_settle_129 : decode cX12_settle 129 = .ok (.iload_n 1, 1) := by decide +kernel
theorem dX12_settle_130 : decode cX12_settle 130 = .ok (.bipush 13, 2) := by decide +kernel
theorem dX12_settle_132 : decode cX12_settle 132 = .ok (.iadd, 1) := by decide +kernel
theorem dX12_settle_133 : decode cX12_settle 133 = .ok (.iaload, 1) := by decide +kernel
theorem dX12_settle_134 : decode cX12_settle 134 = .ok (.ishl, 1) := by decide +kernel
theorem dX12_settle_135 : decode cX12_settle 135 = .ok (.ireturn, 1) := by decide +kernel
theorem dX12_canLay_0 : decode cX12_canLay 0 = .ok (.iconst 0, 1) := by decide +kernel
theorem dX12_canLay_1 : decode cX12_canLay 1 = .ok (.istore_n 3, 1) := by decide +kernel
theorem dX12_canLay_2 : decode cX12_canLay 2 = .ok (.iload_n 3, 1) := by decide +kernel
theorem dX12_canLay_3 : decode cX12_canLay 3 = .ok (.aload_n 0, 1) := by decide +kernel
theorem dX12_canLay_4 : decode cX12_canLay 4 = .ok (.getfield 8, 3) := by decide +kernel
theorem dX12_canLay_7 : decode cX12_canLay 7 = .ok (.iload_n 1, 1) := by decide +kernel
theorem dX12_canLay_8 : decode cX12_canLay 8 = .ok (.bipush 22, 2) := by decide +kernel
theorem dX12_canLay_10 : decode cX12_canLay 10 = .ok (.iadd, 1) := by decide +kernel
theorem dX12_canLay_11 : decode cX12_canLay 11 = .ok (.iload_n 2, 1) := by decide +kernel
theorem dX12_canLay_12 : decode cX12_canLay 12 = .ok (.iadd, 1) := by decide +kernel
theorem dX12_canLay_13 : decode cX12_canLay 13 = .ok (.iaload, 1) := by decide +kernel
theorem dX12_canLay_14 : decode cX12_canLay 14 = .ok (.if_icmp .ge 42, 3) := by decide +kernel
theorem dX12_canLay_17 : decode cX12_canLay 17 = .ok (.aload_n 0, 1) := by decide +kernel
theorem dX12_canLay_18 : decode cX12_canLay 18 = .ok (.getfield 8, 3) := by decide +kernel
theorem dX12_canLay_21 : decode cX12_canLay 21 = .ok (.iload_n 1, 1) := by decide +kernel
theorem dX12_canLay_22 : decode cX12_canLay 22 = .ok (.bipush 50, 2) := by decide +kernel
theorem dX12_canLay_24 : decode cX12_canLay 24 = .ok (.iadd, 1) := by decide +kernel
theorem dX12_canLay_25 : decode cX12_canLay 25 = .ok (.aload_n 0, 1) := by decide +kernel
theorem dX12_canLay_26 : decode cX12_canLay 26 = .ok (.getfield 8, 3) := by decide +kernel
theorem dX12_canLay_29 : decode cX12_canLay 29 = .ok (.iload_n 1, 1) := by decide +kernel
theorem dX12_canLay_30 : decode cX12_canLay 30 = .ok (.sipush 230, 3) := by decide +kernel
theorem dX12_canLay_33 : decode cX12_canLay 33 = .ok (.iadd, 1) := by decide +kernel
theorem dX12_canLay_34 : decode cX12_canLay 34 = .ok (.bipush 60, 2) := by decide +kernel
theorem dX12_canLay_36 : decode cX12_canLay 36 = .ok (.iload_n 2, 1) := by decide +kernel
theorem dX12_canLay_37 : decode cX12_canLay 37 = .ok (.imul, 1) := by decide +kernel
theorem dX12_canLay_38 : decode cX12_canLay 38 = .ok (.iadd, 1) := by decide +kernel
theorem dX12_canLay_39 : decode cX12_canLay 39 = .ok (.iload_n 3, 1) := by decide +kernel
theorem dX12_canLay_40 : decode cX12_canLay 40 = .ok (.iadd, 1) := by decide +kernel
theorem dX12_canLay_41 : decode cX12_canLay 41 = .ok (.iaload, 1) := by decide +kernel
theorem dX12_canLay_42 : decode cX12_canLay 42 = .ok (.iadd, 1) := by decide +kernel
theorem dX12_canLay_43 : decode cX12_canLay 43 = .ok (.iaload, 1) := by decide +kernel
theorem dX12_canLay_44 : decode cX12_canLay 44 = .ok (.iconst 3, 1) := by decide +kernel
theorem dX12_canLay_45 : decode cX12_canLay 45 = .ok (.if_icmp .eq 5, 3) := by decide +kernel
theorem dX12_canLay_48 : decode cX12_canLay 48 = .ok (.iconst 1, 1) := by decide +kernel
theorem dX12_canLay_49 : decode cX12_canLay 49 = .ok (.ireturn, 1) := by decide +kernel
theorem dX12_canLay_50 : decode cX12_canLay 50 = .ok (.iinc 3 1, 3) := by decide +kernel
theorem dX12_canLay_53 : decode cX12_canLay 53 = .ok (.goto (-51), 3) := by decide +kernel
theorem dX12_canLay_56 : decode cX12_canLay 56 = .ok (.iconst 0, 1) := by decide +kernel
theorem dX12_canLay_57 : decode cX12_canLay 57 = .ok (.ireturn, 1) := by decide +kernel
theorem dX12_seatFrom_0 : decode cX12_seatFrom 0 = .ok (.iconst 0, 1) := by decide +kernel
theorem dX12_seatFrom_1 : decode cX12_seatFrom 1 = .ok (.istore_n 3, 1) := by decide +kernel
theorem dX12_seatFrom_2 : decode cX12_seatFrom 2 = .ok (.iload_n 3, 1) := by decide +kernel
theorem dX12_seatFrom_3 : decode cX12_seatFrom 3 = .ok (.iconst 4, 1) := by decide +kernel
theorem dX12_seatFrom_4 : decode cX12_seatFrom 4 = .ok (.if_icmp .ge 89, 3) := by decide +kernel
theorem dX12_seatFrom_7 : decode cX12_seatFrom 7 = .ok (.iload_n 2, 1) := by decide +kernel
theorem dX12_seatFrom_8 : decode cX12_seatFrom 8 = .ok (.iload_n 3, 1) := by decide +kernel
theorem dX12_seatFrom_9 : decode cX12_seatFrom 9 = .ok (.iadd, 1) := by decide +kernel
theorem dX12_seatFrom_10 : decode cX12_seatFrom 10 = .ok (.iconst 4, 1) := by decide +kernel
theorem dX12_seatFrom_11 : decode cX12_seatFrom 11 = .ok (.irem, 1) := by decide +kernel
theorem dX12_seatFrom_12 : decode cX12_seatFrom 12 = .ok (.istore 4, 2) := by decide +kernel
theorem dX12_seatFrom_14 : decode cX12_seatFrom 14 = .ok (.iconst 0, 1) := by decide +kernel
theorem dX12_seatFrom_15 : decode cX12_seatFrom 15 = .ok (.istore 5, 2) := by decide +kernel
theorem dX12_seatFrom_17 : decode cX12_seatFrom 17 = .ok (.iconst 0, 1) := by decide +kernel
theorem dX12_seatFrom_18 : decode cX12_seatFrom 18 = .ok (.istore 6, 2) := by decide +kernel
theorem dX12_seatFrom_20 : decode cX12_seatFrom 20 = .ok (.iload 6, 2) := by decide +kernel
theorem dX12_seatFrom_22 : decode cX12_seatFrom 22 = .ok (.aload_n 0, 1) := by decide +kernel
theorem dX12_seatFrom_23 : decode cX12_seatFrom 23 = .ok (.getfield 8, 3) := by decide +kernel
theorem dX12_seatFrom_26 : decode cX12_seatFrom 26 = .ok (.iload_n 1, 1) := by decide +kernel
theorem dX12_seatFrom_27 : decode cX12_seatFrom 27 = .ok (.bipush 26, 2) := by decide +kernel
theorem dX12_seatFrom_29 : decode cX12_seatFrom 29 = .ok (.iadd, 1) := by decide +kernel
theorem dX12_seatFrom_30 : decode cX12_seatFrom 30 = .ok (.iaload, 1) := by decide +kernel
theorem dX12_seatFrom_31 : decode cX12_seatFrom 31 = .ok (.if_icmp .ge 38, 3) := by decide +kernel
theorem dX12_seatFrom_34 : decode cX12_seatFrom 34 = .ok (.iload 5, 2) := by decide +kernel
theorem dX12_seatFrom_36 : decode cX12_seatFrom 36 = .ok (.ifCond .ne 20, 3) := by decide +kernel
theorem dX12_seatFrom_39 : decode cX12_seatFrom 39 = .ok (.aload_n 0, 1) := by decide +kernel
theorem dX12_seatFrom_40 : decode cX12_seatFrom 40 = .ok (.getfield 8, 3) := by decide +kernel
theorem dX12_seatFrom_43 : decode cX12_seatFrom 43 = .ok (.iload_n 1, 1) := by decide +kernel
theorem dX12_seatFrom_44 : decode cX12_seatFrom 44 = .ok (.bipush 31, 2) := by decide +kernel
theorem dX12_seatFrom_46 : decode cX12_seatFrom 46 = .ok (.iadd, 1) := by decide +kernel
theorem dX12_seatFrom_47 : decode cX12_seatFrom 47 = .ok (.iload 6, 2) := by decide +kernel
theorem dX12_seatFrom_49 : decode cX12_seatFrom 49 = .ok (.iadd, 1) := by decide +kernel
theorem dX12_seatFrom_50 : decode cX12_seatFrom 50 = .ok (.iaload, 1) := by decide +kernel
theorem dX12_seatFrom_51 : decode cX12_seatFrom 51 = .ok (.iload 4, 2) := by decide +kernel
theorem dX12_seatFrom_53 : decode cX12_seatFrom 53 = .ok (.if_icmp .ne 7, 3) := by decide +kernel
theorem dX12_seatFrom_56 : decode cX12_seatFrom 56 = .ok (.iconst 1, 1) := by decide +kernel
theorem dX12_seatFrom_57 : decode cX12_seatFrom 57 = .ok (.goto 4, 3) := by decide +kernel
theorem dX12_seatFrom_60 : decode cX12_seatFrom 60 = .ok (.iconst 0, 1) := by decide +kernel
theorem dX12_seatFrom_61 : decode cX12_seatFrom 61 = .ok (.istore 5, 2) := by decide +kernel
theorem dX12_seatFrom_63 : decode cX12_seatFrom 63 = .ok (.iinc 6 1, 3) := by decide +kernel
theorem dX12_seatFrom_66 : decode cX12_seatFrom 66 = .ok (.goto (-46), 3) := by decide +kernel
theorem dX12_seatFrom_69 : decode cX12_seatFrom 69 = .ok (.iload 5, 2) := by decide +kernel
theorem dX12_seatFrom_71 : decode cX12_seatFrom 71 = .ok (.ifCond .ne 16, 3) := by decide +kernel
theorem dX12_seatFrom_74 : decode cX12_seatFrom 74 = .ok (.aload_n 0, 1) := by decide +kernel
theorem dX12_seatFrom_75 : decode cX12_seatFrom 75 = .ok (.iload_n 1, 1) := by decide +kernel
theorem dX12_seatFrom_76 : decode cX12_seatFrom 76 = .ok (.iload 4, 2) := by decide +kernel
theorem dX12_seatFrom_78 : decode cX12_seatFrom 78 = .ok (.invokevirtual 147, 3) := by decide +kernel
theorem dX12_seatFrom_81 : decode cX12_seatFrom 81 = .ok (.ifCond .eq 6, 3) := by decide +kernel
theorem dX12_seatFrom_84 : decode cX12_seatFrom 84 = .ok (.iload 4, 2) := by decide +kernel
theorem dX12_seatFrom_86 : decode cX12_seatFrom 86 = .ok (.ireturn, 1) := by decide +kernel
theorem dX12_seatFrom_87 : decode cX12_seatFrom 87 = .ok (.iinc 3 1, 3) := by decide +kernel
theorem dX12_seatFrom_90 : decode cX12_seatFrom 90 = .ok (.goto (-88), 3) := by decide +kernel
theorem dX12_seatFrom_93 : decode cX12_seatFrom 93 = .ok (.iconst (-1), 1) := by decide +kernel
theorem dX12_seatFrom_94 : decode cX12_seatFrom 94 = .ok (.ireturn, 1) := by decide +kernel
theorem dX12_takeRest_0 : decode cX12_takeRest 0 = .ok (.aload_n 0, 1) := by decide +kernel
theorem dX12_takeRest_1 : decode cX12_takeRest 1 = .ok (.getfield 8, 3) := by decide +kernel
theorem dX12_takeRest_4 : decode cX12_takeRest 4 = .ok (.iload_n 1, 1) := by decide +kernel
theorem dX12_takeRest_5 : decode cX12_takeRest 5 = .ok (.bipush 21, 2) := by decide +kernel
theorem dX12_takeRest_7 : decode cX12_takeRest 7 = .ok (.iadd, 1) := by decide +kernel
theorem dX12_takeRest_8 : decode cX12_takeRest 8 = .ok (.dup2, 1) := by decide +kernel
theorem dX12_takeRest_9 : decode cX12_takeRest 9 = .ok (.iaload, 1) := by decide +kernel
theorem dX12_takeRest_10 : decode cX12_takeRest 10 = .ok (.iconst 1, 1) := by decide +kernel
theorem dX12_takeRest_11 : decode cX12_takeRest 11 = .ok (.isub, 1) := by decide +kernel
theorem dX12_takeRest_12 : decode cX12_takeRest 12 = .ok (.iastore, 1) := by decide +kernel
theorem dX12_takeRest_13 : decode cX12_takeRest 13 = .ok (.iload_n 2, 1) := by decide +kernel
theorem dX12_takeRest_14 : decode cX12_takeRest 14 = .ok (.istore_n 3, 1) := by decide +kernel
theorem dX12_takeRest_15 : decode cX12_takeRest 15 = .ok (.iload_n 3, 1) := by decide +kernel
theorem dX12_takeRest_16 : decode cX12_takeRest 16 = .ok (.aload_n 0, 1) := by decide +kernel
theorem dX12_takeRest_17 : decode cX12_takeRest 17 = .ok (.getfield 8, 3) := by decide +kernel
theorem dX12_takeRest_20 : decode cX12_takeRest 20 = .ok (.iload_n 1, 1) := by decide +kernel
theorem dX12_takeRest_21 : decode cX12_takeRest 21 = .ok (.bipush 21, 2) := by decide +kernel
theorem dX12_takeRest_23 : decode cX12_takeRest 23 = .ok (.iadd, 1) := by decide +kernel
theorem dX12_takeRest_24 : decode cX12_takeRest 24 = .ok (.iaload, 1) := by decide +kernel
theorem dX12_takeRest_25 : decode cX12_takeRest 25 = .ok (.if_icmp .ge 35, 3) := by decide +kernel
theorem dX12_takeRest_28 : decode cX12_takeRest 28 = .ok (.aload_n 0, 1) := by decide +kernel
theorem dX12_takeRest_29 : decode cX12_takeRest 29 = .ok (.getfield 8, 3) := by decide +kernel
theorem dX12_takeRest_32 : decode cX12_takeRest 32 = .ok (.iload_n 1, 1) := by decide +kernel
theorem dX12_takeRest_33 : decode cX12_takeRest 33 = .ok (.sipush 170, 3) := by decide +kernel
theorem dX12_takeRest_36 : decode cX12_takeRest 36 = .ok (.iadd, 1) := by decide +kernel
theorem dX12_takeRest_37 : decode cX12_takeRest 37 = .ok (.iload_n 3, 1) := by decide +kernel
theorem dX12_takeRest_38 : decode cX12_takeRest 38 = .ok (.iadd, 1) := by decide +kernel
theorem dX12_takeRest_39 : decode cX12_takeRest 39 = .ok (.aload_n 0, 1) := by decide +kernel
theorem dX12_takeRest_40 : decode cX12_takeRest 40 = .ok (.getfield 8, 3) := by decide +kernel
theorem dX12_takeRest_43 : decode cX12_takeRest 43 = .ok (.iload_n 1, 1) := by decide +kernel
theorem dX12_takeRest_44 : decode cX12_takeRest 44 = .ok (.sipush 170, 3) := by decide +kernel
theorem dX12_takeRest_47 : decode cX12_takeRest 47 = .ok (.iadd, 1) := by decide +kernel
theorem dX12_takeRest_48 : decode cX12_takeRest 48 = .ok (.iload_n 3, 1) := by decide +kernel
theorem dX12_takeRest_49 : decode cX12_takeRest 49 = .ok (.iadd, 1) := by decide +kernel
theorem dX12_takeRest_50 : decode cX12_takeRest 50 = .ok (.iconst 1, 1) := by decide +kernel
theorem dX12_takeRest_51 : decode cX12_takeRest 51 = .ok (.iadd, 1) := by decide +kernel
theorem dX12_takeRest_52 : decode cX12_takeRest 52 = .ok (.iaload, 1) := by decide +kernel
theorem dX12_takeRest_53 : decode cX12_takeRest 53 = .ok (.iastore, 1) := by decide +kernel
theorem dX12_takeRest_54 : decode cX12_takeRest 54 = .ok (.iinc 3 1, 3) := by decide +kernel
theorem dX12_takeRest_57 : decode cX12_takeRest 57 = .ok (.goto (-42), 3) := by decide +kernel
theorem dX12_takeRest_60 : decode cX12_takeRest 60 = .ok (.return_, 1) := by decide +kernel
theorem dX12_toHand_0 : decode cX12_toHand 0 = .ok (.aload_n 0, 1) := by decide +kernel
theorem dX12_toHand_1 : decode cX12_toHand 1 = .ok (.getfield 8, 3) := by decide +kernel
theorem dX12_toHand_4 : decode cX12_toHand 4 = .ok (.iload_n 1, 1) := by decide +kernel
theorem dX12_toHand_5 : decode cX12_toHand 5 = .ok (.sipush 170, 3) := by decide +kernel
theorem dX12_toHand_8 : decode cX12_toHand 8 = .ok (.iadd, 1) := by decide +kernel
theorem dX12_toHand_9 : decode cX12_toHand 9 = .ok (.iload_n 3, 1) := by decide +kernel
theorem dX12_toHand_10 : decode cX12_toHand 10 = .ok (.iadd, 1) := by decide +kernel
theorem dX12_toHand_11 : decode cX12_toHand 11 = .ok (.iaload, 1) := by decide +kernel
theorem dX12_toHand_12 : decode cX12_toHand 12 = .ok (.istore 4, 2) := by decide +kernel
theorem dX12_toHand_14 : decode cX12_toHand 14 = .ok (.aload_n 0, 1) := by decide +kernel
theorem dX12_toHand_15 : decode cX12_toHand 15 = .ok (.iload_n 1, 1) := by decide +kernel
theorem dX12_toHand_16 : decode cX12_toHand 16 = .ok (.iload_n 3, 1) := by decide +kernel
theorem dX12_toHand_17 : decode cX12_toHand 17 = .ok (.invokevirtual 150, 3) := by decide +kernel
theorem dX12_toHand_20 : decode cX12_toHand 20 = .ok (.aload_n 0, 1) := by decide +kernel
theorem dX12_toHand_21 : decode cX12_toHand 21 = .ok (.getfield 8, 3) := by decide +kernel
theorem dX12_toHand_24 : decode cX12_toHand 24 = .ok (.iload_n 1, 1) := by decide +kernel
theorem dX12_toHand_25 : decode cX12_toHand 25 = .ok (.sipush 230, 3) := by decide +kernel
theorem dX12_toHand_28 : decode cX12_toHand 28 = .ok (.iadd, 1) := by decide +kernel
theorem dX12_toHand_29 : decode cX12_toHand 29 = .ok (.bipush 60, 2) := by decide +kernel
theorem dX12_toHand_31 : decode cX12_toHand 31 = .ok (.iload_n 2, 1) := by decide +kernel
theorem dX12_toHand_32 : decode cX12_toHand 32 = .ok (.imul, 1) := by decide +kernel
theorem dX12_toHand_33 : decode cX12_toHand 33 = .ok (.iadd, 1) := by decide +kernel
theorem dX12_toHand_34 : decode cX12_toHand 34 = .ok (.aload_n 0, 1) := by decide +kernel
theorem dX12_toHand_35 : decode cX12_toHand 35 = .ok (.getfield 8, 3) := by decide +kernel
theorem dX12_toHand_38 : decode cX12_toHand 38 = .ok (.iload_n 1, 1) := by decide +kernel
theorem dX12_toHand_39 : decode cX12_toHand 39 = .ok (.bipush 22, 2) := by decide +kernel
theorem dX12_toHand_41 : decode cX12_toHand 41 = .ok (.iadd, 1) := by decide +kernel
theorem dX12_toHand_42 : decode cX12_toHand 42 = .ok (.iload_n 2, 1) := by decide +kernel
theorem dX12_toHand_43 : decode cX12_toHand 43 = .ok (.iadd, 1) := by decide +kernel
theorem dX12_toHand_44 : decode cX12_toHand 44 = .ok (.iaload, 1) := by decide +kernel
theorem dX12_toHand_45 : decode cX12_toHand 45 = .ok (.iadd, 1) := by decide +kernel
theorem dX12_toHand_46 : decode cX12_toHand 46 = .ok (.iload 4, 2) := by decide +kernel
theorem dX12_toHand_48 : decode cX12_toHand 48 = .ok (.iastore, 1) := by decide +kernel
theorem dX12_toHand_49 : decode cX12_toHand 49 = .ok (.aload_n 0, 1) := by decide +kernel
theorem dX12_toHand_50 : decode cX12_toHand 50 = .ok (.getfield 8, 3) := by decide +kernel
theorem dX12_toHand_53 : decode cX12_toHand 53 = .ok (.iload_n 1, 1) := by decide +kernel
theorem dX12_toHand_54 : decode cX12_toHand 54 = .ok (.bipush 22, 2) := by decide +kernel
theorem dX12_toHand_56 : decode cX12_toHand 56 = .ok (.iadd, 1) := by decide +kernel
theorem dX12_toHand_57 : decode cX12_toHand 57 = .ok (.iload_n 2, 1) := by decide +kernel
theorem dX12_toHand_58 : decode cX12_toHand 58 = .ok (.iadd, 1) := by decide +kernel
theorem dX12_toHand_59 : decode cX12_toHand 59 = .ok (.dup2, 1) := by decide +kernel
theorem dX12_toHand_60 : decode cX12_toHand 60 = .ok (.iaload, 1) := by decide +kernel
theorem dX12_toHand_61 : decode cX12_toHand 61 = .ok (.iconst 1, 1) := by decide +kernel
theorem dX12_toHand_62 : decode cX12_toHand 62 = .ok (.iadd, 1) := by decide +kernel
theorem dX12_toHand_63 : decode cX12_toHand 63 = .ok (.iastore, 1) := by decide +kernel
theorem dX12_toHand_64 : decode cX12_toHand 64 = .ok (.aload_n 0, 1) := by decide +kernel
theorem dX12_toHand_65 : decode cX12_toHand 65 = .ok (.getfield 8, 3) := by decide +kernel
theorem dX12_toHand_68 : decode cX12_toHand 68 = .ok (.iload_n 1, 1) := by decide +kernel
theorem dX12_toHand_69 : decode cX12_toHand 69 = .ok (.bipush 110, 2) := by decide +kernel
theorem dX12_toHand_71 : decode cX12_toHand 71 = .ok (.iadd, 1) := by decide +kernel
theorem dX12_toHand_72 : decode cX12_toHand 72 = .ok (.iload 4, 2) := by decide +kernel
theorem dX12_toHand_74 : decode cX12_toHand 74 = .ok (.iadd, 1) := by decide +kernel
theorem dX12_toHand_75 : decode cX12_toHand 75 = .ok (.iconst 1, 1) := by decide +kernel
theorem dX12_toHand_76 : decode cX12_toHand 76 = .ok (.iload_n 2, 1) := by decide +kernel
theorem dX12_toHand_77 : decode cX12_toHand 77 = .ok (.iadd, 1) := by decide +kernel
theorem dX12_toHand_78 : decode cX12_toHand 78 = .ok (.iastore, 1) := by decide +kernel
theorem dX12_toHand_79 : decode cX12_toHand 79 = .ok (.return_, 1) := by decide +kernel
theorem dX12_sizeOf_0 : decode cX12_sizeOf 0 = .ok (.aload_n 0, 1) := by decide +kernel
theorem dX12_sizeOf_1 : decode cX12_sizeOf 1 = .ok (.getfield 8, 3) := by decide +kernel
theorem dX12_sizeOf_4 : decode cX12_sizeOf 4 = .ok (.iload_n 1, 1) := by decide +kernel
theorem dX12_sizeOf_5 : decode cX12_sizeOf 5 = .ok (.iconst 1, 1) := by decide +kernel
theorem dX12_sizeOf_6 : decode cX12_sizeOf 6 = .ok (.iadd, 1) := by decide +kernel
theorem dX12_sizeOf_7 : decode cX12_sizeOf 7 = .ok (.iaload, 1) := by decide +kernel
theorem dX12_sizeOf_8 : decode cX12_sizeOf 8 = .ok (.istore_n 2, 1) := by decide +kernel
theorem dX12_sizeOf_9 : decode cX12_sizeOf 9 = .ok (.aload_n 0, 1) := by decide +kernel
theorem dX12_sizeOf_10 : decode cX12_sizeOf 10 = .ok (.getfield 8, 3) := by decide +kernel
theorem dX12_sizeOf_13 : decode cX12_sizeOf 13 = .ok (.iload_n 1, 1) := by decide +kernel
theorem dX12_sizeOf_14 : decode cX12_sizeOf 14 = .ok (.iconst 2, 1) := by decide +kernel
theorem dX12_sizeOf_15 : decode cX12_sizeOf 15 = .ok (.iadd, 1) := by decide +kernel
theorem dX12_sizeOf_16 : decode cX12_sizeOf 16 = .ok (.iaload, 1) := by decide +kernel
theorem dX12_sizeOf_17 : decode cX12_sizeOf 17 = .ok (.iconst 4, 1) := by decide +kernel
theorem dX12_sizeOf_18 : decode cX12_sizeOf 18 = .ok (.if_icmp .eq 9, 3) := by decide +kernel
theorem dX12_sizeOf_21 : decode cX12_sizeOf 21 = .ok (.iload_n 2, 1) := by decide +kernel
theorem dX12_sizeOf_22 : decode cX12_sizeOf 22 = .ok (.iconst 4, 1) := by decide +kernel
theorem dX12_sizeOf_23 : decode cX12_sizeOf 23 = .ok (.idiv, 1) := by decide +kernel
theorem dX12_sizeOf_24 : decode cX12_sizeOf 24 = .ok (.goto 17, 3) := by decide +kernel
theorem dX12_sizeOf_27 : decode cX12_sizeOf 27 = .ok (.iload_n 2, 1) := by decide +kernel
theorem dX12_sizeOf_28 : decode cX12_sizeOf 28 = .ok (.bipush 8, 2) := by decide +kernel
theorem dX12_sizeOf_30 : decode cX12_sizeOf 30 = .ok (.if_icmp .ge 7, 3) := by decide +kernel
theorem dX12_sizeOf_33 : decode cX12_sizeOf 33 = .ok (.iconst 1, 1) := by decide +kernel
theorem dX12_sizeOf_34 : decode cX12_sizeOf 34 = .ok (.goto 7, 3) := by decide +kernel
theorem dX12_sizeOf_37 : decode cX12_sizeOf 37 = .ok (.iload_n 2, 1) := by decide +kernel
theorem dX12_sizeOf_38 : decode cX12_sizeOf 38 = .ok (.bipush 8, 2) := by decide +kernel
theorem dX12_sizeOf_40 : decode cX12_sizeOf 40 = .ok (.idiv, 1) := by decide +kernel
theorem dX12_sizeOf_41 : decode cX12_sizeOf 41 = .ok (.ireturn, 1) := by decide +kernel
theorem dX12_dealOut_0 : decode cX12_dealOut 0 = .ok (.aload_n 0, 1) := by decide +kernel
theorem dX12_dealOut_1 : decode cX12_dealOut 1 = .ok (.iload_n 1, 1) := by decide +kernel
theorem dX12_dealOut_2 : decode cX12_dealOut 2 = .ok (.invokevirtual 103, 3) := by decide +kernel
theorem dX12_dealOut_5 : decode cX12_dealOut 5 = .ok (.aload_n 0, 1) := by decide +kernel
theorem dX12_dealOut_6 : decode cX12_dealOut 6 = .ok (.aload_n 0, 1) := by decide +kernel
theorem dX12_dealOut_7 : decode cX12_dealOut 7 = .ok (.getfield 8, 3) := by decide +kernel
theorem dX12_dealOut_10 : decode cX12_dealOut 10 = .ok (.iload_n 1, 1) := by decide +kernel
theorem dX12_dealOut_11 : decode cX12_dealOut 11 = .ok (.iconst 2, 1) := by decide +kernel
theorem dX12_dealOut_12 : decode cX12_dealOut 12 = .ok (.iadd, 1) := by decide +kernel
theorem dX12_dealOut_13 : decode cX12_dealOut 13 = .ok (.iaload, 1) := by decide +kernel
theorem dX12_dealOut_14 : decode cX12_dealOut 14 = .ok (.iconst 4, 1) := by decide +kernel
theorem dX12_dealOut_15 : decode cX12_dealOut 15 = .ok (.if_icmp .ne 8, 3) := by decide +kernel
theorem dX12_dealOut_18 : decode cX12_dealOut 18 = .ok (.bipush 12, 2) := by decide +kernel
theorem dX12_dealOut_20 : decode cX12_dealOut 20 = .ok (.goto 5, 3) := by decide +kernel
theorem dX12_dealOut_23 : decode cX12_dealOut 23 = .ok (.bipush 11, 2) := by decide +kernel
theorem dX12_dealOut_25 : decode cX12_dealOut 25 = .ok (.invokevirtual 124, 3) := by decide +kernel
theorem dX12_dealOut_28 : decode cX12_dealOut 28 = .ok (.iload_n 2, 1) := by decide +kernel
theorem dX12_dealOut_29 : decode cX12_dealOut 29 = .ok (.istore 4, 2) := by decide +kernel
theorem dX12_dealOut_31 : decode cX12_dealOut 31 = .ok (.aload_n 0, 1) := by decide +kernel
theorem dX12_dealOut_32 : decode cX12_dealOut 32 = .ok (.getfield 8, 3) := by decide +kernel
theorem dX12_dealOut_35 : decode cX12_dealOut 35 = .ok (.iload_n 1, 1) := by decide +kernel
theorem dX12_dealOut_36 : decode cX12_dealOut 36 = .ok (.iconst 1, 1) := by decide +kernel
theorem dX12_dealOut_37 : decode cX12_dealOut 37 = .ok (.iadd, 1) := by decide +kernel
theorem dX12_dealOut_38 : decode cX12_dealOut 38 = .ok (.iaload, 1) := by decide +kernel
theorem dX12_dealOut_39 : decode cX12_dealOut 39 = .ok (.iconst 1, 1) := by decide +kernel
theorem dX12_dealOut_40 : decode cX12_dealOut 40 = .ok (.isub, 1) := by decide +kernel
theorem dX12_dealOut_41 : decode cX12_dealOut 41 = .ok (.istore 5, 2) := by decide +kernel
theorem dX12_dealOut_43 : decode cX12_dealOut 43 = .ok (.iload 5, 2) := by decide +kernel
theorem dX12_dealOut_45 : decode cX12_dealOut 45 = .ok (.ifCond .le 87, 3) := by decide +kernel
theorem dX12_dealOut_48 : decode cX12_dealOut 48 = .ok (.iload 4, 2) := by decide +kernel
theorem dX12_dealOut_50 : decode cX12_dealOut 50 = .ok (.ldc 153, 2) := by decide +kernel
theorem dX12_dealOut_52 : decode cX12_dealOut 52 = .ok (.imul, 1) := by decide +kernel
theorem dX12_dealOut_53 : decode cX12_dealOut 53 = .ok (.ldc 154, 2) := by decide +kernel
theorem dX12_dealOut_55 : decode cX12_dealOut 55 = .ok (.iadd, 1) := by decide +kernel
theorem dX12_dealOut_56 : decode cX12_dealOut 56 = .ok (.istore 4, 2) := by decide +kernel
theorem dX12_dealOut_58 : decode cX12_dealOut 58 = .ok (.iload 4, 2) := by decide +kernel
theorem dX12_dealOut_60 : decode cX12_dealOut 60 = .ok (.bipush 8, 2) := by decide +kernel
theorem dX12_dealOut_62 : decode cX12_dealOut 62 = .ok (.iushr, 1) := by decide +kernel
theorem dX12_dealOut_63 : decode cX12_dealOut 63 = .ok (.iload 5, 2) := by decide +kernel
theorem dX12_dealOut_65 : decode cX12_dealOut 65 = .ok (.iconst 1, 1) := by decide +kernel
theorem dX12_dealOut_66 : decode cX12_dealOut 66 = .ok (.iadd, 1) := by decide +kernel
theorem dX12_dealOut_67 : decode cX12_dealOut 67 = .ok (.irem, 1) := by decide +kernel
theorem dX12_dealOut_68 : decode cX12_dealOut 68 = .ok (.istore 6, 2) := by decide +kernel
theorem dX12_dealOut_70 : decode cX12_dealOut 70 = .ok (.aload_n 0, 1) := by decide +kernel
theorem dX12_dealOut_71 : decode cX12_dealOut 71 = .ok (.getfield 8, 3) := by decide +kernel
theorem dX12_dealOut_74 : decode cX12_dealOut 74 = .ok (.iload_n 1, 1) := by decide +kernel
theorem dX12_dealOut_75 : decode cX12_dealOut 75 = .ok (.sipush 170, 3) := by decide +kernel
theorem dX12_dealOut_78 : decode cX12_dealOut 78 = .ok (.iadd, 1) := by decide +kernel
theorem dX12_dealOut_79 : decode cX12_dealOut 79 = .ok (.iload 5, 2) := by decide +kernel
theorem dX12_dealOut_81 : decode cX12_dealOut 81 = .ok (.iadd, 1) := by decide +kernel
theorem dX12_dealOut_82 : decode cX12_dealOut 82 = .ok (.iaload, 1) := by decide +kernel
theorem dX12_dealOut_83 : decode cX12_dealOut 83 = .ok (.istore 7, 2) := by decide +kernel
theorem dX12_dealOut_85 : decode cX12_dealOut 85 = .ok (.aload_n 0, 1) := by decide +kernel
theorem dX12_dealOut_86 : decode cX12_dealOut 86 = .ok (.getfield 8, 3) := by decide +kernel
theorem dX12_dealOut_89 : decode cX12_dealOut 89 = .ok (.iload_n 1, 1) := by decide +kernel
theorem dX12_dealOut_90 : decode cX12_dealOut 90 = .ok (.sipush 170, 3) := by decide +kernel
theorem dX12_dealOut_93 : decode cX12_dealOut 93 = .ok (.iadd, 1) := by decide +kernel
theorem dX12_dealOut_94 : decode cX12_dealOut 94 = .ok (.iload 5, 2) := by decide +kernel
theorem dX12_dealOut_96 : decode cX12_dealOut 96 = .ok (.iadd, 1) := by decide +kernel
theorem dX12_dealOut_97 : decode cX12_dealOut 97 = .ok (.aload_n 0, 1) := by decide +kernel
theorem dX12_dealOut_98 : decode cX12_dealOut 98 = .ok (.getfield 8, 3) := by decide +kernel
theorem dX12_dealOut_101 : decode cX12_dealOut 101 = .ok (.iload_n 1, 1) := by decide +kernel
theorem dX12_dealOut_102 : decode cX12_dealOut 102 = .ok (.sipush 170, 3) := by decide +kernel
theorem dX12_dealOut_105 : decode cX12_dealOut 105 = .ok (.iadd, 1) := by decide +kernel
theorem dX12_dealOut_106 : decode cX12_dealOut 106 = .ok (.iload 6, 2) := by decide +kernel
theorem dX12_dealOut_108 : decode cX12_dealOut 108 = .ok (.iadd, 1) := by decide +kernel
theorem dX12_dealOut_109 : decode cX12_dealOut 109 = .ok (.iaload, 1) := by decide +kernel
theorem dX12_dealOut_110 : decode cX12_dealOut 110 = .ok (.iastore, 1) := by decide +kernel
theorem dX12_dealOut_111 : decode cX12_dealOut 111 = .ok (.aload_n 0, 1) := by decide +kernel
theorem dX12_dealOut_112 : decode cX12_dealOut 112 = .ok (.getfield 8, 3) := by decide +kernel
theorem dX12_dealOut_115 : decode cX12_dealOut 115 = .ok (.iload_n 1, 1) := by decide +kernel
theorem dX12_dealOut_116 : decode cX12_dealOut 116 = .ok (.sipush 170, 3) := by decide +kernel
theorem dX12_dealOut_119 : decode cX12_dealOut 119 = .ok (.iadd, 1) := by decide +kernel
theorem dX12_dealOut_120 : decode cX12_dealOut 120 = .ok (.iload 6, 2) := by decide +kernel
theorem dX12_dealOut_122 : decode cX12_dealOut 122 = .ok (.iadd, 1) := by decide +kernel
theorem dX12_dealOut_123 : decode cX12_dealOut 123 = .ok (.iload 7, 2) := by decide +kernel
theorem dX12_dealOut_125 : decode cX12_dealOut 125 = .ok (.iastore, 1) := by decide +kernel
theorem dX12_dealOut_126 : decode cX12_dealOut 126 = .ok (.iinc 5 (-1), 3) := by decide +kernel
theorem dX12_dealOut_129 : decode cX12_dealOut 129 = .ok (.goto (-86), 3) := by decide +kernel
theorem dX12_dealOut_132 : decode cX12_dealOut 132 = .ok (.iload_n 3, 1) := by decide +kernel
theorem dX12_dealOut_133 : decode cX12_dealOut 133 = .ok (.iconst (-1), 1) := by decide +kernel
theorem dX12_dealOut_134 : decode cX12_dealOut 134 = .ok (.if_icmp .ne 11, 3) := by decide +kernel
theorem dX12_dealOut_137 : decode cX12_dealOut 137 = .ok (.aload_n 0, 1) := by decide +kernel
theorem dX12_dealOut_138 : decode cX12_dealOut 138 = .ok (.iload_n 1, 1) := by decide +kernel
theorem dX12_dealOut_139 : decode cX12_dealOut 139 = .ok (.invokevirtual 155, 3) := by decide +kernel
theorem dX12_dealOut_142 : decode cX12_dealOut 142 = .ok (.goto 4, 3) := by decide +kernel
theorem dX12_dealOut_145 : decode cX12_dealOut 145 = .ok (.iload_n 3, 1) := by decide +kernel
theorem dX12_dealOut_146 : decode cX12_dealOut 146 = .ok (.istore 5, 2) := by decide +kernel
theorem dX12_dealOut_148 : decode cX12_dealOut 148 = .ok (.iconst 0, 1) := by decide +kernel
theorem dX12_dealOut_149 : decode cX12_dealOut 149 = .ok (.istore 6, 2) := by decide +kernel
theorem dX12_dealOut_151 : decode cX12_dealOut 151 = .ok (.iload 6, 2) := by decide +kernel
theorem dX12_dealOut_153 : decode cX12_dealOut 153 = .ok (.iconst 4, 1) := by decide +kernel
theorem dX12_dealOut_154 : decode cX12_dealOut 154 = .ok (.if_icmp .ge 74, 3) := by decide +kernel
theorem dX12_dealOut_157 : decode cX12_dealOut 157 = .ok (.aload_n 0, 1) := by decide +kernel
theorem dX12_dealOut_158 : decode cX12_dealOut 158 = .ok (.getfield 8, 3) := by decide +kernel
theorem dX12_dealOut_161 : decode cX12_dealOut 161 = .ok (.iload_n 1, 1) := by decide +kernel
theorem dX12_dealOut_162 : decode cX12_dealOut 162 = .ok (.bipush 35, 2) := by decide +kernel
theorem dX12_dealOut_164 : decode cX12_dealOut 164 = .ok (.iadd, 1) := by decide +kernel
theorem dX12_dealOut_165 : decode cX12_dealOut 165 = .ok (.iload 6, 2) := by decide +kernel
theorem dX12_dealOut_167 : decode cX12_dealOut 167 = .ok (.iadd, 1) := by decide +kernel
theorem dX12_dealOut_168 : decode cX12_dealOut 168 = .ok (.iaload, 1) := by decide +kernel
theorem dX12_dealOut_169 : decode cX12_dealOut 169 = .ok (.iconst 1, 1) := by decide +kernel
theorem dX12_dealOut_170 : decode cX12_dealOut 170 = .ok (.if_icmp .ne 52, 3) := by decide +kernel
theorem dX12_dealOut_173 : decode cX12_dealOut 173 = .ok (.aload_n 0, 1) := by decide +kernel
theorem dX12_dealOut_174 : decode cX12_dealOut 174 = .ok (.getfield 8, 3) := by decide +kernel
theorem dX12_dealOut_177 : decode cX12_dealOut 177 = .ok (.iload_n 1, 1) := by decide +kernel
theorem dX12_dealOut_178 : decode cX12_dealOut 178 = .ok (.bipush 22, 2) := by decide +kernel
theorem dX12_dealOut_180 : decode cX12_dealOut 180 = .ok (.iadd, 1) := by decide +kernel
theorem dX12_dealOut_181 : decode cX12_dealOut 181 = .ok (.iload 6, 2) := by decide +kernel
theorem dX12_dealOut_183 : decode cX12_dealOut 183 = .ok (.iadd, 1) := by decide +kernel
theorem dX12_dealOut_184 : decode cX12_dealOut 184 = .ok (.iconst 0, 1) := by decide +kernel
theorem dX12_dealOut_185 : decode cX12_dealOut 185 = .ok (.iastore, 1) := by decide +kernel
theorem dX12_dealOut_186 : decode cX12_dealOut 186 = .ok (.iconst 0, 1) := by decide +kernel
theorem dX12_dealOut_187 : decode cX12_dealOut 187 = .ok (.istore 7, 2) := by decide +kernel
theorem dX12_dealOut_189 : decode cX12_dealOut 189 = .ok (.iload 7, 2) := by decide +kernel
theorem dX12_dealOut_191 : decode cX12_dealOut 191 = .ok (.iload 5, 2) := by decide +kernel
theorem dX12_dealOut_193 : decode cX12_dealOut 193 = .ok (.if_icmp .ge 29, 3) := by decide +kernel
theorem dX12_dealOut_196 : decode cX12_dealOut 196 = .ok (.aload_n 0, 1) := by decide +kernel
theorem dX12_dealOut_197 : decode cX12_dealOut 197 = .ok (.getfield 8, 3) := by decide +kernel
theorem dX12_dealOut_200 : decode cX12_dealOut 200 = .ok (.iload_n 1, 1) := by decide +kernel
theorem dX12_dealOut_201 : decode cX12_dealOut 201 = .ok (.bipush 21, 2) := by decide +kernel
theorem dX12_dealOut_203 : decode cX12_dealOut 203 = .ok (.iadd, 1) := by decide +kernel
theorem dX12_dealOut_204 : decode cX12_dealOut 204 = .ok (.iaload, 1) := by decide +kernel
theorem dX12_dealOut_205 : decode cX12_dealOut 205 = .ok (.ifCond .le 17, 3) := by decide +kernel
theorem dX12_dealOut_208 : decode cX12_dealOut 208 = .ok (.aload_n 0, 1) := by decide +kernel
theorem dX12_dealOut_209 : decode cX12_dealOut 209 = .ok (.iload_n 1, 1) := by decide +kernel
theorem dX12_dealOut_210 : decode cX12_dealOut 210 = .ok (.iload 6, 2) := by decide +kernel
theorem dX12_dealOut_212 : decode cX12_dealOut 212 = .ok (.iconst 0, 1) := by decide +kernel
theorem dX12_dealOut_213 : decode cX12_dealOut 213 = .ok (.invokevirtual 158, 3) := by decide +kernel
theorem dX12_dealOut_216 : decode cX12_dealOut 216 = .ok (.iinc 7 1, 3) := by decide +kernel
theorem dX12_dealOut_219 : decode cX12_dealOut 219 = .ok (.goto (-30), 3) := by decide +kernel
theorem dX12_dealOut_222 : decode cX12_dealOut 222 = .ok (.iinc 6 1, 3) := by decide +kernel
theorem dX12_dealOut_225 : decode cX12_dealOut 225 = .ok (.goto (-74), 3) := by decide +kernel
theorem dX12_dealOut_228 : decode cX12_dealOut 228 = .ok (.aload_n 0, 1) := by decide +kernel
theorem dX12_dealOut_229 : decode cX12_dealOut 229 = .ok (.getfield 8, 3) := by decide +kernel
theorem dX12_dealOut_232 : decode cX12_dealOut 232 = .ok (.iload_n 1, 1) := by decide +kernel
theorem dX12_dealOut_233 : decode cX12_dealOut 233 = .ok (.iconst 5, 1) := by decide +kernel
theorem dX12_dealOut_234 : decode cX12_dealOut 234 = .ok (.iadd, 1) := by decide +kernel
theorem dX12_dealOut_235 : decode cX12_dealOut 235 = .ok (.iconst 1, 1) := by decide +kernel
theorem dX12_dealOut_236 : decode cX12_dealOut 236 = .ok (.iastore, 1) := by decide +kernel
theorem dX12_dealOut_237 : decode cX12_dealOut 237 = .ok (.aload_n 0, 1) := by decide +kernel
theorem dX12_dealOut_238 : decode cX12_dealOut 238 = .ok (.getfield 8, 3) := by decide +kernel
theorem dX12_dealOut_241 : decode cX12_dealOut 241 = .ok (.iload_n 1, 1) := by decide +kernel
theorem dX12_dealOut_242 : decode cX12_dealOut 242 = .ok (.bipush 9, 2) := by decide +kernel
theorem dX12_dealOut_244 : decode cX12_dealOut 244 = .ok (.iadd, 1) := by decide +kernel
theorem dX12_dealOut_245 : decode cX12_dealOut 245 = .ok (.aload_n 0, 1) := by decide +kernel
theorem dX12_dealOut_246 : decode cX12_dealOut 246 = .ok (.iload_n 1, 1) := by decide +kernel
theorem dX12_dealOut_247 : decode cX12_dealOut 247 = .ok (.iconst 0, 1) := by decide +kernel
theorem dX12_dealOut_248 : decode cX12_dealOut 248 = .ok (.invokevirtual 162, 3) := by decide +kernel
theorem dX12_dealOut_251 : decode cX12_dealOut 251 = .ok (.iastore, 1) := by decide +kernel
theorem dX12_dealOut_252 : decode cX12_dealOut 252 = .ok (.return_, 1) := by decide +kernel
theorem dX12_deal_0 : decode cX12_deal 0 = .ok (.aload_n 0, 1) := by decide +kernel
theorem dX12_deal_1 : decode cX12_deal 1 = .ok (.iload_n 1, 1) := by decide +kernel
theorem dX12_deal_2 : decode cX12_deal 2 = .ok (.invokevirtual 107, 3) := by decide +kernel
theorem dX12_deal_5 : decode cX12_deal 5 = .ok (.ifCond .ne 6, 3) := by decide +kernel
theorem dX12_deal_8 : decode cX12_deal 8 = .ok (.bipush (-2), 2) := by decide +kernel
theorem dX12_deal_10 : decode cX12_deal 10 = .ok (.ireturn, 1) := by decide +kernel
theorem dX12_deal_11 : decode cX12_deal 11 = .ok (.sipush 1290, 3) := by decide +kernel
theorem dX12_deal_14 : decode cX12_deal 14 = .ok (.iload_n 1, 1) := by decide +kernel
theorem dX12_deal_15 : decode cX12_deal 15 = .ok (.imul, 1) := by decide +kernel
theorem dX12_deal_16 : decode cX12_deal 16 = .ok (.istore 4, 2) := by decide +kernel
theorem dX12_deal_18 : decode cX12_deal 18 = .ok (.iload_n 3, 1) := by decide +kernel
theorem dX12_deal_19 : decode cX12_deal 19 = .ok (.iconst (-1), 1) := by decide +kernel
theorem dX12_deal_20 : decode cX12_deal 20 = .ok (.aload_n 0, 1) := by decide +kernel
theorem dX12_deal_21 : decode cX12_deal 21 = .ok (.iload 4, 2) := by decide +kernel
theorem dX12_deal_23 : decode cX12_deal 23 = .ok (.invokevirtual 155, 3) := by decide +kernel
theorem dX12_deal_26 : decode cX12_deal 26 = .ok (.invokestatic 91, 3) := by decide +kernel
theorem dX12_deal_29 : decode cX12_deal 29 = .ok (.ifCond .ne 6, 3) := by decide +kernel
theorem dX12_deal_32 : decode cX12_deal 32 = .ok (.bipush (-3), 2) := by decide +kernel
theorem dX12_deal_34 : decode cX12_deal 34 = .ok (.ireturn, 1) := by decide +kernel
theorem dX12_deal_35 : decode cX12_deal 35 = .ok (.aload_n 0, 1) := by decide +kernel
theorem dX12_deal_36 : decode cX12_deal 36 = .ok (.getfield 8, 3) := by decide +kernel
theorem dX12_deal_39 : decode cX12_deal 39 = .ok (.iload 4, 2) := by decide +kernel
theorem dX12_deal_41 : decode cX12_deal 41 = .ok (.iconst 5, 1) := by decide +kernel
theorem dX12_deal_42 : decode cX12_deal 42 = .ok (.iadd, 1) := by decide +kernel
theorem dX12_deal_43 : decode cX12_deal 43 = .ok (.iaload, 1) := by decide +kernel
theorem dX12_deal_44 : decode cX12_deal 44 = .ok (.iconst 1, 1) := by decide +kernel
theorem dX12_deal_45 : decode cX12_deal 45 = .ok (.if_icmp .ne 17, 3) := by decide +kernel
theorem dX12_deal_48 : decode cX12_deal 48 = .ok (.aload_n 0, 1) := by decide +kernel
theorem dX12_deal_49 : decode cX12_deal 49 = .ok (.getfield 8, 3) := by decide +kernel
theorem dX12_deal_52 : decode cX12_deal 52 = .ok (.iload 4, 2) := by decide +kernel
theorem dX12_deal_54 : decode cX12_deal 54 = .ok (.bipush 9, 2) := by decide +kernel
theorem dX12_deal_56 : decode cX12_deal 56 = .ok (.iadd, 1) := by decide +kernel
theorem dX12_deal_57 : decode cX12_deal 57 = .ok (.iaload, 1) := by decide +kernel
theorem dX12_deal_58 : decode cX12_deal 58 = .ok (.iconst (-1), 1) := by decide +kernel
theorem dX12_deal_59 : decode cX12_deal 59 = .ok (.if_icmp .ne 26, 3) := by decide +kernel
theorem dX12_deal_62 : decode cX12_deal 62 = .ok (.aload_n 0, 1) := by decide +kernel
theorem dX12_deal_63 : decode cX12_deal 63 = .ok (.getfield 8, 3) := by decide +kernel
theorem dX12_deal_66 : decode cX12_deal 66 = .ok (.iload 4, 2) := by decide +kernel
theorem dX12_deal_68 : decode cX12_deal 68 = .ok (.bipush 8, 2) := by decide +kernel
theorem dX12_deal_70 : decode cX12_deal 70 = .ok (.iadd, 1) := by decide +kernel
theorem dX12_deal_71 : decode cX12_deal 71 = .ok (.iaload, 1) := by decide +kernel
theorem dX12_deal_72 : decode cX12_deal 72 = .ok (.aload_n 0, 1) := by decide +kernel
theorem dX12_deal_73 : decode cX12_deal 73 = .ok (.getfield 8, 3) := by decide +kernel
theorem dX12_deal_76 : decode cX12_deal 76 = .ok (.iload 4, 2) := by decide +kernel
theorem dX12_deal_78 : decode cX12_deal 78 = .ok (.bipush 7, 2) := by decide +kernel
theorem dX12_deal_80 : decode cX12_deal 80 = .ok (.iadd, 1) := by decide +kernel
theorem dX12_deal_81 : decode cX12_deal 81 = .ok (.iaload, 1) := by decide +kernel
theorem dX12_deal_82 : decode cX12_deal 82 = .ok (.if_icmp .lt 6, 3) := by decide +kernel
theorem dX12_deal_85 : decode cX12_deal 85 = .ok (.bipush (-4), 2) := by decide +kernel
theorem dX12_deal_87 : decode cX12_deal 87 = .ok (.ireturn, 1) := by decide +kernel
theorem dX12_deal_88 : decode cX12_deal 88 = .ok (.aload_n 0, 1) := by decide +kernel
theorem dX12_deal_89 : decode cX12_deal 89 = .ok (.iload_n 1, 1) := by decide +kernel
theorem dX12_deal_90 : decode cX12_deal 90 = .ok (.invokevirtual 165, 3) := by decide +kernel
theorem dX12_deal_93 : decode cX12_deal 93 = .ok (.aload_n 0, 1) := by decide +kernel
theorem dX12_deal_94 : decode cX12_deal 94 = .ok (.iload 4, 2) := by decide +kernel
theorem dX12_deal_96 : decode cX12_deal 96 = .ok (.iload_n 2, 1) := by decide +kernel
theorem dX12_deal_97 : decode cX12_deal 97 = .ok (.iload_n 3, 1) := by decide +kernel
theorem dX12_deal_98 : decode cX12_deal 98 = .ok (.invokevirtual 168, 3) := by decide +kernel
theorem dX12_deal_101 : decode cX12_deal 101 = .ok (.aload_n 0, 1) := by decide +kernel
theorem dX12_deal_102 : decode cX12_deal 102 = .ok (.iload 4, 2) := by decide +kernel
theorem dX12_deal_104 : decode cX12_deal 104 = .ok (.iconst 0, 1) := by decide +kernel
theorem dX12_deal_105 : decode cX12_deal 105 = .ok (.iload_n 2, 1) := by decide +kernel
theorem dX12_deal_106 : decode cX12_deal 106 = .ok (.iload_n 3, 1) := by decide +kernel
theorem dX12_deal_107 : decode cX12_deal 107 = .ok (.iconst 0, 1) := by decide +kernel
theorem dX12_deal_108 : decode cX12_deal 108 = .ok (.invokevirtual 171, 3) := by decide +kernel
theorem dX12_deal_111 : decode cX12_deal 111 = .ok (.aload_n 0, 1) := by decide +kernel
theorem dX12_deal_112 : decode cX12_deal 112 = .ok (.dup, 1) := by decide +kernel
theorem dX12_deal_113 : decode cX12_deal 113 = .ok (.getfield 175, 3) := by decide +kernel
theorem dX12_deal_116 : decode cX12_deal 116 = .ok (.iconst 1, 1) := by decide +kernel
theorem dX12_deal_117 : decode cX12_deal 117 = .ok (.iadd, 1) := by decide +kernel
theorem dX12_deal_118 : decode cX12_deal 118 = .ok (.putfield 175, 3) := by decide +kernel
theorem dX12_deal_121 : decode cX12_deal 121 = .ok (.aload_n 0, 1) := by decide +kernel
theorem dX12_deal_122 : decode cX12_deal 122 = .ok (.getfield 8, 3) := by decide +kernel
theorem dX12_deal_125 : decode cX12_deal 125 = .ok (.iload 4, 2) := by decide +kernel
theorem dX12_deal_127 : decode cX12_deal 127 = .ok (.bipush 8, 2) := by decide +kernel
theorem dX12_deal_129 : decode cX12_deal 129 = .ok (.iadd, 1) := by decide +kernel
theorem dX12_deal_130 : decode cX12_deal 130 = .ok (.dup2, 1) := by decide +kernel
theorem dX12_deal_131 : decode cX12_deal 131 = .ok (.iaload, 1) := by decide +kernel
theorem dX12_deal_132 : decode cX12_deal 132 = .ok (.iconst 1, 1) := by decide +kernel
theorem dX12_deal_133 : decode cX12_deal 133 = .ok (.iadd, 1) := by decide +kernel
theorem dX12_deal_134 : decode cX12_deal 134 = .ok (.iastore, 1) := by decide +kernel
theorem dX12_deal_135 : decode cX12_deal 135 = .ok (.aload_n 0, 1) := by decide +kernel
theorem dX12_deal_136 : decode cX12_deal 136 = .ok (.getfield 8, 3) := by decide +kernel
theorem dX12_deal_139 : decode cX12_deal 139 = .ok (.iload 4, 2) := by decide +kernel
theorem dX12_deal_141 : decode cX12_deal 141 = .ok (.bipush 6, 2) := by decide +kernel
theorem dX12_deal_143 : decode cX12_deal 143 = .ok (.iadd, 1) := by decide +kernel
theorem dX12_deal_144 : decode cX12_deal 144 = .ok (.aload_n 0, 1) := by decide +kernel
theorem dX12_deal_145 : decode cX12_deal 145 = .ok (.getfield 175, 3) := by decide +kernel
theorem dX12_deal_148 : decode cX12_deal 148 = .ok (.iastore, 1) := by decide +kernel
theorem dX12_deal_149 : decode cX12_deal 149 = .ok (.aload_n 0, 1) := by decide +kernel
theorem dX12_deal_150 : decode cX12_deal 150 = .ok (.getfield 175, 3) := by decide +kernel
theorem dX12_deal_153 : decode cX12_deal 153 = .ok (.ireturn, 1) := by decide +kernel
theorem dX12_isOpen_0 : decode cX12_isOpen 0 = .ok (.aload_n 0, 1) := by decide +kernel
theorem dX12_isOpen_1 : decode cX12_isOpen 1 = .ok (.getfield 8, 3) := by decide +kernel
theorem dX12_isOpen_4 : decode cX12_isOpen 4 = .ok (.iload_n 1, 1) := by decide +kernel
theorem dX12_isOpen_5 : decode cX12_isOpen 5 = .ok (.iconst 5, 1) := by decide +kernel
theorem dX12_isOpen_6 : decode cX12_isOpen 6 = .ok (.iadd, 1) := by decide +kernel
theorem dX12_isOpen_7 : decode cX12_isOpen 7 = .ok (.iaload, 1) := by decide +kernel
theorem dX12_isOpen_8 : decode cX12_isOpen 8 = .ok (.iconst 1, 1) := by decide +kernel
theorem dX12_isOpen_9 : decode cX12_isOpen 9 = .ok (.if_icmp .ne 34, 3) := by decide +kernel
theorem dX12_isOpen_12 : decode cX12_isOpen 12 = .ok (.aload_n 0, 1) := by decide +kernel
theorem dX12_isOpen_13 : decode cX12_isOpen 13 = .ok (.getfield 8, 3) := by decide +kernel
theorem dX12_isOpen_16 : decode cX12_isOpen 16 = .ok (.iload_n 1, 1) := by decide +kernel
theorem dX12_isOpen_17 : decode cX12_isOpen 17 = .ok (.bipush 14, 2) := by decide +kernel
theorem dX12_isOpen_19 : decode cX12_isOpen 19 = .ok (.iadd, 1) := by decide +kernel
theorem dX12_isOpen_20 : decode cX12_isOpen 20 = .ok (.iaload, 1) := by decide +kernel
theorem dX12_isOpen_21 : decode cX12_isOpen 21 = .ok (.ifCond .ne 22, 3) := by decide +kernel
theorem dX12_isOpen_24 : decode cX12_isOpen 24 = .ok (.aload_n 0, 1) := by decide +kernel
theorem dX12_isOpen_25 : decode cX12_isOpen 25 = .ok (.getfield 8, 3) := by decide +kernel
theorem dX12_isOpen_28 : decode cX12_isOpen 28 = .ok (.iload_n 1, 1) := by decide +kernel
theorem dX12_isOpen_29 : decode cX12_isOpen 29 = .ok (.bipush 35, 2) := by decide +kernel
theorem dX12_isOpen_31 : decode cX12_isOpen 31 = .ok (.iadd, 1) := by decide +kernel
theorem dX12_isOpen_32 : decode cX12_isOpen 32 = .ok (.iload_n 2, 1) := by decide +kernel
theorem dX12_isOpen_33 : decode cX12_isOpen 33 = .ok (.iadd, 1) := by decide +kernel
theorem dX12_isOpen_34 : decode cX12_isOpen 34 = .ok (.iaload, 1) := by decide +kernel
theorem dX12_isOpen_35 : decode cX12_isOpen 35 = .ok (.iconst 1, 1) := by decide +kernel
theorem dX12_isOpen_36 : decode cX12_isOpen 36 = .ok (.if_icmp .ne 7, 3) := by decide +kernel
theorem dX12_isOpen_39 : decode cX12_isOpen 39 = .ok (.iconst 1, 1) := by decide +kernel
theorem dX12_isOpen_40 : decode cX12_isOpen 40 = .ok (.goto 4, 3) := by decide +kernel
theorem dX12_isOpen_43 : decode cX12_isOpen 43 = .ok (.iconst 0, 1) := by decide +kernel
theorem dX12_isOpen_44 : decode cX12_isOpen 44 = .ok (.ireturn, 1) := by decide +kernel
theorem dX12_barsGive_0 : decode cX12_barsGive 0 = .ok (.aload_n 0, 1) := by decide +kernel
theorem dX12_barsGive_1 : decode cX12_barsGive 1 = .ok (.getfield 8, 3) := by decide +kernel
theorem dX12_barsGive_4 : decode cX12_barsGive 4 = .ok (.iload_n 1, 1) := by decide +kernel
theorem dX12_barsGive_5 : decode cX12_barsGive 5 = .ok (.bipush 22, 2) := by decide +kernel
theorem dX12_barsGive_7 : decode cX12_barsGive 7 = .ok (.iadd, 1) := by decide +kernel
theorem dX12_barsGive_8 : decode cX12_barsGive 8 = .ok (.iload_n 2, 1) := by decide +kernel
theorem dX12_barsGive_9 : decode cX12_barsGive 9 = .ok (.iadd, 1) := by decide +kernel
theorem dX12_barsGive_10 : decode cX12_barsGive 10 = .ok (.iaload, 1) := by decide +kernel
theorem dX12_barsGive_11 : decode cX12_barsGive 11 = .ok (.aload_n 0, 1) := by decide +kernel
theorem dX12_barsGive_12 : decode cX12_barsGive 12 = .ok (.iload_n 1, 1) := by decide +kernel
theorem dX12_barsGive_13 : decode cX12_barsGive 13 = .ok (.invokevirtual 155, 3) := by decide +kernel
theorem dX12_barsGive_16 : decode cX12_barsGive 16 = .ok (.if_icmp .lt 6, 3) := by decide +kernel
theorem dX12_barsGive_19 : decode cX12_barsGive 19 = .ok (.bipush (-3), 2) := by decide +kernel
theorem dX12_barsGive_21 : decode cX12_barsGive 21 = .ok (.ireturn, 1) := by decide +kernel
theorem dX12_barsGive_22 : decode cX12_barsGive 22 = .ok (.aload_n 0, 1) := by decide +kernel
theorem dX12_barsGive_23 : decode cX12_barsGive 23 = .ok (.iload_n 1, 1) := by decide +kernel
theorem dX12_barsGive_24 : decode cX12_barsGive 24 = .ok (.iload_n 2, 1) := by decide +kernel
theorem dX12_barsGive_25 : decode cX12_barsGive 25 = .ok (.invokevirtual 178, 3) := by decide +kernel
theorem dX12_barsGive_28 : decode cX12_barsGive 28 = .ok (.ifCond .eq 17, 3) := by decide +kernel
theorem dX12_barsGive_31 : decode cX12_barsGive 31 = .ok (.aload_n 0, 1) := by decide +kernel
theorem dX12_barsGive_32 : decode cX12_barsGive 32 = .ok (.getfield 8, 3) := by decide +kernel
theorem dX12_barsGive_35 : decode cX12_barsGive 35 = .ok (.iload_n 1, 1) := by decide +kernel
theorem dX12_barsGive_36 : decode cX12_barsGive 36 = .ok (.bipush 110, 2) := by decide +kernel
theorem dX12_barsGive_38 : decode cX12_barsGive 38 = .ok (.iadd, 1) := by decide +kernel
theorem dX12_barsGive_39 : decode cX12_barsGive 39 = .ok (.iload_n 3, 1) := by decide +kernel
theorem dX12_barsGive_40 : decode cX12_barsGive 40 = .ok (.iadd, 1) := by decide +kernel
theorem dX12_barsGive_41 : decode cX12_barsGive 41 = .ok (.iaload, 1) := by decide +kernel
theorem dX12_barsGive_42 : decode cX12_barsGive 42 = .ok (.ifCond .eq 8, 3) := by decide +kernel
theorem dX12_barsGive_45 : decode cX12_barsGive 45 = .ok (.bipush (-4), 2) := by decide +kernel
theorem dX12_barsGive_47 : decode cX12_barsGive 47 = .ok (.goto 4, 3) := by decide +kernel
theorem dX12_barsGive_50 : decode cX12_barsGive 50 = .ok (.iconst 0, 1) := by decide +kernel
theorem dX12_barsGive_51 : decode cX12_barsGive 51 = .ok (.ireturn, 1) := by decide +kernel
theorem dX12_doGive_0 : decode cX12_doGive 0 = .ok (.aload_n 0, 1) := by decide +kernel
theorem dX12_doGive_1 : decode cX12_doGive 1 = .ok (.getfield 8, 3) := by decide +kernel
theorem dX12_doGive_4 : decode cX12_doGive 4 = .ok (.iload_n 1, 1) := by decide +kernel
theorem dX12_doGive_5 : decode cX12_doGive 5 = .ok (.bipush 22, 2) := by decide +kernel
theorem dX12_doGive_7 : decode cX12_doGive 7 = .ok (.iadd, 1) := by decide +kernel
theorem dX12_doGive_8 : decode cX12_doGive 8 = .ok (.iload_n 2, 1) := by decide +kernel
theorem dX12_doGive_9 : decode cX12_doGive 9 = .ok (.iadd, 1) := by decide +kernel
theorem dX12_doGive_10 : decode cX12_doGive 10 = .ok (.aload_n 0, 1) := by decide +kernel
theorem dX12_doGive_11 : decode cX12_doGive 11 = .ok (.getfield 8, 3) := by decide +kernel
theorem dX12_doGive_14 : decode cX12_doGive 14 = .ok (.iload_n 1, 1) := by decide +kernel
theorem dX12_doGive_15 : decode cX12_doGive 15 = .ok (.bipush 22, 2) := by decide +kernel
theorem dX12_doGive_17 : decode cX12_doGive 17 = .ok (.iadd, 1) := by decide +kernel
theorem dX12_doGive_18 : decode cX12_doGive 18 = .ok (.iload_n 2, 1) := by decide +kernel
theorem dX12_doGive_19 : decode cX12_doGive 19 = .ok (.iadd, 1) := by decide +kernel
theorem dX12_doGive_20 : decode cX12_doGive 20 = .ok (.iaload, 1) := by decide +kernel
theorem dX12_doGive_21 : decode cX12_doGive 21 = .ok (.iconst (-1), 1) := by decide +kernel
theorem dX12_doGive_22 : decode cX12_doGive 22 = .ok (.if_icmp .ne 7, 3) := by decide +kernel
theorem dX12_doGive_25 : decode cX12_doGive 25 = .ok (.iconst 0, 1) := by decide +kernel
theorem dX12_doGive_26 : decode cX12_doGive 26 = .ok (.goto 14, 3) := by decide +kernel
theorem dX12_doGive_29 : decode cX12_doGive 29 = .ok (.aload_n 0, 1) := by decide +kernel
theorem dX12_doGive_30 : decode cX12_doGive 30 = .ok (.getfield 8, 3) := by decide +kernel
theorem dX12_doGive_33 : decode cX12_doGive 33 = .ok (.iload_n 1, 1) := by decide +kernel
theorem dX12_doGive_34 : decode cX12_doGive 34 = .ok (.bipush 22, 2) := by decide +kernel
theorem dX12_doGive_36 : decode cX12_doGive 36 = .ok (.iadd, 1) := by decide +kernel
theorem dX12_doGive_37 : decode cX12_doGive 37 = .ok (.iload_n 2, 1) := by decide +kernel
theorem dX12_doGive_38 : decode cX12_doGive 38 = .ok (.iadd, 1) := by decide +kernel
theorem dX12_doGive_39 : decode cX12_doGive 39 = .ok (.iaload, 1) := by decide +kernel
theorem dX12_doGive_40 : decode cX12_doGive 40 = .ok (.iastore, 1) := by decide +kernel
theorem dX12_doGive_41 : decode cX12_doGive 41 = .ok (.iconst 0, 1) := by decide +kernel
theorem dX12_doGive_42 : decode cX12_doGive 42 = .ok (.istore 4, 2) := by decide +kernel
theorem dX12_doGive_44 : decode cX12_doGive 44 = .ok (.aload_n 0, 1) := by decide +kernel
theorem dX12_doGive_45 : decode cX12_doGive 45 = .ok (.getfield 8, 3) := by decide +kernel
theorem dX12_doGive_48 : decode cX12_doGive 48 = .ok (.iload_n 1, 1) := by decide +kernel
theorem dX12_doGive_49 : decode cX12_doGive 49 = .ok (.sipush 170, 3) := by decide +kernel
theorem dX12_doGive_52 : decode cX12_doGive 52 = .ok (.iadd, 1) := by decide +kernel
theorem dX12_doGive_53 : decode cX12_doGive 53 = .ok (.iload 4, 2) := by decide +kernel
theorem dX12_doGive_55 : decode cX12_doGive 55 = .ok (.iadd, 1) := by decide +kernel
theorem dX12_doGive_56 : decode cX12_doGive 56 = .ok (.iaload, 1) := by decide +kernel
theorem dX12_doGive_57 : decode cX12_doGive 57 = .ok (.iload_n 3, 1) := by decide +kernel
theorem dX12_doGive_58 : decode cX12_doGive 58 = .ok (.if_icmp .eq 9, 3) := by decide +kernel
theorem dX12_doGive_61 : decode cX12_doGive 61 = .ok (.iinc 4 1, 3) := by decide +kernel
theorem dX12_doGive_64 : decode cX12_doGive 64 = .ok (.goto (-20), 3) := by decide +kernel
theorem dX12_doGive_67 : decode cX12_doGive 67 = .ok (.aload_n 0, 1) := by decide +kernel
theorem dX12_doGive_68 : decode cX12_doGive 68 = .ok (.iload_n 1, 1) := by decide +kernel
theorem dX12_doGive_69 : decode cX12_doGive 69 = .ok (.iload_n 2, 1) := by decide +kernel
theorem dX12_doGive_70 : decode cX12_doGive 70 = .ok (.iload 4, 2) := by decide +kernel
theorem dX12_doGive_72 : decode cX12_doGive 72 = .ok (.invokevirtual 158, 3) := by decide +kernel
theorem dX12_doGive_75 : decode cX12_doGive 75 = .ok (.aload_n 0, 1) := by decide +kernel
theorem dX12_doGive_76 : decode cX12_doGive 76 = .ok (.getfield 8, 3) := by decide +kernel
theorem dX12_doGive_79 : decode cX12_doGive 79 = .ok (.iload_n 1, 1) := by decide +kernel
theorem dX12_doGive_80 : decode cX12_doGive 80 = .ok (.bipush 9, 2) := by decide +kernel
theorem dX12_doGive_82 : decode cX12_doGive 82 = .ok (.iadd, 1) := by decide +kernel
theorem dX12_doGive_83 : decode cX12_doGive 83 = .ok (.aload_n 0, 1) := by decide +kernel
theorem dX12_doGive_84 : decode cX12_doGive 84 = .ok (.iload_n 1, 1) := by decide +kernel
theorem dX12_doGive_85 : decode cX12_doGive 85 = .ok (.iconst 0, 1) := by decide +kernel
theorem dX12_doGive_86 : decode cX12_doGive 86 = .ok (.invokevirtual 162, 3) := by decide +kernel
theorem dX12_doGive_89 : decode cX12_doGive 89 = .ok (.iastore, 1) := by decide +kernel
theorem dX12_doGive_90 : decode cX12_doGive 90 = .ok (.return_, 1) := by decide +kernel
theorem dX12_give_0 : decode cX12_give 0 = .ok (.aload_n 0, 1) := by decide +kernel
theorem dX12_give_1 : decode cX12_give 1 = .ok (.iload_n 1, 1) := by decide +kernel
theorem dX12_give_2 : decode cX12_give 2 = .ok (.invokevirtual 107, 3) := by decide +kernel
theorem dX12_give_5 : decode cX12_give 5 = .ok (.ifCond .eq 19, 3) := by decide +kernel
theorem dX12_give_8 : decode cX12_give 8 = .ok (.iload_n 2, 1) := by decide +kernel
theorem dX12_give_9 : decode cX12_give 9 = .ok (.invokestatic 110, 3) := by decide +kernel
theorem dX12_give_12 : decode cX12_give 12 = .ok (.ifCond .eq 12, 3) := by decide +kernel
theorem dX12_give_15 : decode cX12_give 15 = .ok (.aload_n 0, 1) := by decide +kernel
theorem dX12_give_16 : decode cX12_give 16 = .ok (.iload_n 1, 1) := by decide +kernel
theorem dX12_give_17 : decode cX12_give 17 = .ok (.iload_n 3, 1) := by decide +kernel
theorem dX12_give_18 : decode cX12_give 18 = .ok (.invokevirtual 113, 3) := by decide +kernel
theorem dX12_give_21 : decode cX12_give 21 = .ok (.ifCond .ne 6, 3) := by decide +kernel
theorem dX12_give_24 : decode cX12_give 24 = .ok (.bipush (-2), 2) := by decide +kernel
theorem dX12_give_26 : decode cX12_give 26 = .ok (.ireturn, 1) := by decide +kernel
theorem dX12_give_27 : decode cX12_give 27 = .ok (.sipush 1290, 3) := by decide +kernel
theorem dX12_give_30 : decode cX12_give 30 = .ok (.iload_n 1, 1) := by decide +kernel
theorem dX12_give_31 : decode cX12_give 31 = .ok (.imul, 1) := by decide +kernel
theorem dX12_give_32 : decode cX12_give 32 = .ok (.istore 4, 2) := by decide +kernel
theorem dX12_give_34 : decode cX12_give 34 = .ok (.aload_n 0, 1) := by decide +kernel
theorem dX12_give_35 : decode cX12_give 35 = .ok (.iload 4, 2) := by decide +kernel
theorem dX12_give_37 : decode cX12_give 37 = .ok (.iload_n 2, 1) := by decide +kernel
theorem dX12_give_38 : decode cX12_give 38 = .ok (.iload_n 3, 1) := by decide +kernel
theorem dX12_give_39 : decode cX12_give 39 = .ok (.invokevirtual 181, 3) := by decide +kernel
theorem dX12_give_42 : decode cX12_give 42 = .ok (.istore 5, 2) := by decide +kernel
theorem dX12_give_44 : decode cX12_give 44 = .ok (.iload 5, 2) := by decide +kernel
theorem dX12_give_46 : decode cX12_give 46 = .ok (.ifCond .ge 6, 3) := by decide +kernel
theorem dX12_give_49 : decode cX12_give 49 = .ok (.iload 5, 2) := by decide +kernel
theorem dX12_give_51 : decode cX12_give 51 = .ok (.ireturn, 1) := by decide +kernel
theorem dX12_give_52 : decode cX12_give 52 = .ok (.aload_n 0, 1) := by decide +kernel
theorem dX12_give_53 : decode cX12_give 53 = .ok (.iload_n 1, 1) := by decide +kernel
theorem dX12_give_54 : decode cX12_give 54 = .ok (.invokevirtual 165, 3) := by decide +kernel
theorem dX12_give_57 : decode cX12_give 57 = .ok (.aload_n 0, 1) := by decide +kernel
theorem dX12_give_58 : decode cX12_give 58 = .ok (.iload 4, 2) := by decide +kernel
theorem dX12_give_60 : decode cX12_give 60 = .ok (.iconst 1, 1) := by decide +kernel
theorem dX12_give_61 : decode cX12_give 61 = .ok (.iload_n 2, 1) := by decide +kernel
theorem dX12_give_62 : decode cX12_give 62 = .ok (.iload_n 3, 1) := by decide +kernel
theorem dX12_give_63 : decode cX12_give 63 = .ok (.iconst 0, 1) := by decide +kernel
theorem dX12_give_64 : decode cX12_give 64 = .ok (.invokevirtual 171, 3) := by decide +kernel
theorem dX12_give_67 : decode cX12_give 67 = .ok (.aload_n 0, 1) := by decide +kernel
theorem dX12_give_68 : decode cX12_give 68 = .ok (.iload 4, 2) := by decide +kernel
theorem dX12_give_70 : decode cX12_give 70 = .ok (.iload_n 2, 1) := by decide +kernel
theorem dX12_give_71 : decode cX12_give 71 = .ok (.iload_n 3, 1) := by decide +kernel
theorem dX12_give_72 : decode cX12_give 72 = .ok (.invokevirtual 184, 3) := by decide +kernel
theorem dX12_give_75 : decode cX12_give 75 = .ok (.aload_n 0, 1) := by decide +kernel
theorem dX12_give_76 : decode cX12_give 76 = .ok (.getfield 8, 3) := by decide +kernel
theorem dX12_give_79 : decode cX12_give 79 = .ok (.iload 4, 2) := by decide +kernel
theorem dX12_give_81 : decode cX12_give 81 = .ok (.bipush 22, 2) := by decide +kernel
theorem dX12_give_83 : decode cX12_give 83 = .ok (.iadd, 1) := by decide +kernel
theorem dX12_give_84 : decode cX12_give 84 = .ok (.iload_n 2, 1) := by decide +kernel
theorem dX12_give_85 : decode cX12_give 85 = .ok (.iadd, 1) := by decide +kernel
theorem dX12_give_86 : decode cX12_give 86 = .ok (.iaload, 1) := by decide +kernel
theorem dX12_give_87 : decode cX12_give 87 = .ok (.ireturn, 1) := by decide +kernel
theorem dX12_canBid_0 : decode cX12_canBid 0 = .ok (.iload_n 3, 1) := by decide +kernel
theorem dX12_canBid_1 : decode cX12_canBid 1 = .ok (.aload_n 0, 1) := by decide +kernel
theorem dX12_canBid_2 : decode cX12_canBid 2 = .ok (.getfield 8, 3) := by decide +kernel
theorem dX12_canBid_5 : decode cX12_canBid 5 = .ok (.iload_n 1, 1) := by decide +kernel
theorem dX12_canBid_6 : decode cX12_canBid 6 = .ok (.bipush 10, 2) := by decide +kernel
theorem dX12_canBid_8 : decode cX12_canBid 8 = .ok (.iadd, 1) := by decide +kernel
theorem dX12_canBid_9 : decode cX12_canBid 9 = .ok (.iaload, 1) := by decide +kernel
theorem dX12_canBid_10 : decode cX12_canBid 10 = .ok (.if_icmp .gt 30, 3) := by decide +kernel
theorem dX12_canBid_13 : decode cX12_canBid 13 = .ok (.iload_n 3, 1) := by decide +kernel
theorem dX12_canBid_14 : decode cX12_canBid 14 = .ok (.aload_n 0, 1) := by decide +kernel
theorem dX12_canBid_15 : decode cX12_canBid 15 = .ok (.getfield 8, 3) := by decide +kernel
theorem dX12_canBid_18 : decode cX12_canBid 18 = .ok (.iload_n 1, 1) := by decide +kernel
theorem dX12_canBid_19 : decode cX12_canBid 19 = .ok (.bipush 10, 2) := by decide +kernel
theorem dX12_canBid_21 : decode cX12_canBid 21 = .ok (.iadd, 1) := by decide +kernel
theorem dX12_canBid_22 : decode cX12_canBid 22 = .ok (.iaload, 1) := by decide +kernel
theorem dX12_canBid_23 : decode cX12_canBid 23 = .ok (.if_icmp .ne 21, 3) := by decide +kernel
theorem dX12_canBid_26 : decode cX12_canBid 26 = .ok (.iload 4, 2) := by decide +kernel
theorem dX12_canBid_28 : decode cX12_canBid 28 = .ok (.aload_n 0, 1) := by decide +kernel
theorem dX12_canBid_29 : decode cX12_canBid 29 = .ok (.getfield 8, 3) := by decide +kernel
theorem dX12_canBid_32 : decode cX12_canBid 32 = .ok (.iload_n 1, 1) := by decide +kernel
theorem dX12_canBid_33 : decode cX12_canBid 33 = .ok (.bipush 11, 2) := by decide +kernel
theorem dX12_canBid_35 : decode cX12_canBid 35 = .ok (.iadd, 1) := by decide +kernel
theorem dX12_canBid_36 : decode cX12_canBid 36 = .ok (.iaload, 1) := by decide +kernel
theorem dX12_canBid_37 : decode cX12_canBid 37 = .ok (.if_icmp .le 7, 3) := by decide +kernel
theorem dX12_canBid_40 : decode cX12_canBid 40 = .ok (.iconst 1, 1) := by decide +kernel
theorem dX12_canBid_41 : decode cX12_canBid 41 = .ok (.goto 4, 3) := by decide +kernel
theorem dX12_canBid_44 : decode cX12_canBid 44 = .ok (.iconst 0, 1) := by decide +kernel
theorem dX12_canBid_45 : decode cX12_canBid 45 = .ok (.istore 5, 2) := by decide +kernel
theorem dX12_canBid_47 : decode cX12_canBid 47 = .ok (.aload_n 0, 1) := by decide +kernel
theorem dX12_canBid_48 : decode cX12_canBid 48 = .ok (.getfield 8, 3) := by decide +kernel
theorem dX12_canBid_51 : decode cX12_canBid 51 = .ok (.iload_n 1, 1) := by decide +kernel
theorem dX12_canBid_52 : decode cX12_canBid 52 = .ok (.iconst 2, 1) := by decide +kernel
theorem dX12_canBid_53 : decode cX12_canBid 53 = .ok (.iadd, 1) := by decide +kernel
theorem dX12_canBid_54 : decode cX12_canBid 54 = .ok (.iaload, 1) := by decide +kernel
theorem dX12_canBid_55 : decode cX12_canBid 55 = .ok (.iconst 3, 1) := by decide +kernel
theorem dX12_canBid_56 : decode cX12_canBid 56 = .ok (.if_icmp .ne 21, 3) := by decide +kernel
theorem dX12_canBid_59 : decode cX12_canBid 59 = .ok (.aload_n 0, 1) := by decide +kernel
theorem dX12_canBid_60 : decode cX12_canBid 60 = .ok (.iload_n 1, 1) := by decide +kernel
theorem dX12_canBid_61 : decode cX12_canBid 61 = .ok (.iload_n 2, 1) := by decide +kernel
theorem dX12_canBid_62 : decode cX12_canBid 62 = .ok (.invokevirtual 178, 3) := by decide +kernel
theorem dX12_canBid_65 : decode cX12_canBid 65 = .ok (.ifCond .eq 12, 3) := by decide +kernel
theorem dX12_canBid_68 : decode cX12_canBid 68 = .ok (.iload 5, 2) := by decide +kernel
theorem dX12_canBid_70 : decode cX12_canBid 70 = .ok (.ifCond .eq 7, 3) := by decide +kernel
theorem dX12_canBid_73 : decode cX12_canBid 73 = .ok (.iconst 1, 1) := by decide +kernel
theorem dX12_canBid_74 : decode cX12_canBid 74 = .ok (.goto 4, 3) := by decide +kernel
theorem dX12_canBid_77 : decode cX12_canBid 77 = .ok (.iconst 0, 1) := by decide +kernel
theorem dX12_canBid_78 : decode cX12_canBid 78 = .ok (.ireturn, 1) := by decide +kernel
theorem dX12_doBid_0 : decode cX12_doBid 0 = .ok (.aload_n 0, 1) := by decide +kernel
theorem dX12_doBid_1 : decode cX12_doBid 1 = .ok (.getfield 8, 3) := by decide +kernel
theorem dX12_doBid_4 : decode cX12_doBid 4 = .ok (.iload_n 1, 1) := by decide +kernel
theorem dX12_doBid_5 : decode cX12_doBid 5 = .ok (.bipush 10, 2) := by decide +kernel
theorem dX12_doBid_7 : decode cX12_doBid 7 = .ok (.iadd, 1) := by decide +kernel
theorem dX12_doBid_8 : decode cX12_doBid 8 = .ok (.iload_n 3, 1) := by decide +kernel
theorem dX12_doBid_9 : decode cX12_doBid 9 = .ok (.iastore, 1) := by decide +kernel
theorem dX12_doBid_10 : decode cX12_doBid 10 = .ok (.aload_n 0, 1) := by decide +kernel
theorem dX12_doBid_11 : decode cX12_doBid 11 = .ok (.getfield 8, 3) := by decide +kernel
theorem dX12_doBid_14 : decode cX12_doBid 14 = .ok (.iload_n 1, 1) := by decide +kernel
theorem dX12_doBid_15 : decode cX12_doBid 15 = .ok (.bipush 11, 2) := by decide +kernel
theorem dX12_doBid_17 : decode cX12_doBid 17 = .ok (.iadd, 1) := by decide +kernel
theorem dX12_doBid_18 : decode cX12_doBid 18 = .ok (.iload 4, 2) := by decide +kernel
theorem dX12_doBid_20 : decode cX12_doBid 20 = .ok (.iastore, 1) := by decide +kernel
theorem dX12_doBid_21 : decode cX12_doBid 21 = .ok (.aload_n 0, 1) := by decide +kernel
theorem dX12_doBid_22 : decode cX12_doBid 22 = .ok (.getfield 8, 3) := by decide +kernel
theorem dX12_doBid_25 : decode cX12_doBid 25 = .ok (.iload_n 1, 1) := by decide +kernel
theorem dX12_doBid_26 : decode cX12_doBid 26 = .ok (.bipush 12, 2) := by decide +kernel
theorem dX12_doBid_28 : decode cX12_doBid 28 = .ok (.iadd, 1) := by decide +kernel
theorem dX12_doBid_29 : decode cX12_doBid 29 = .ok (.iload_n 2, 1) := by decide +kernel
theorem dX12_doBid_30 : decode cX12_doBid 30 = .ok (.iastore, 1) := by decide +kernel
theorem dX12_doBid_31 : decode cX12_doBid 31 = .ok (.aload_n 0, 1) := by decide +kernel
theorem dX12_doBid_32 : decode cX12_doBid 32 = .ok (.getfield 8, 3) := by decide +kernel
theorem dX12_doBid_35 : decode cX12_doBid 35 = .ok (.iload_n 1, 1) := by decide +kernel
theorem dX12_doBid_36 : decode cX12_doBid 36 = .ok (.bipush 13, 2) := by decide +kernel
theorem dX12_doBid_38 : decode cX12_doBid 38 = .ok (.iadd, 1) := by decide +kernel
theorem dX12_doBid_39 : decode cX12_doBid 39 = .ok (.iconst 0, 1) := by decide +kernel
theorem dX12_doBid_40 : decode cX12_doBid 40 = .ok (.iastore, 1) := by decide +kernel
theorem dX12_doBid_41 : decode cX12_doBid 41 = .ok (.return_, 1) := by decide +kernel
theorem dX12_bid_0 : decode cX12_bid 0 = .ok (.aload_n 0, 1) := by decide +kernel
theorem dX12_bid_1 : decode cX12_bid 1 = .ok (.iload_n 1, 1) := by decide +kernel
theorem dX12_bid_2 : decode cX12_bid 2 = .ok (.invokevirtual 107, 3) := by decide +kernel
theorem dX12_bid_5 : decode cX12_bid 5 = .ok (.ifCond .eq 10, 3) := by decide +kernel
theorem dX12_bid_8 : decode cX12_bid 8 = .ok (.iload_n 2, 1) := by decide +kernel
theorem dX12_bid_9 : decode cX12_bid 9 = .ok (.invokestatic 110, 3) := by decide +kernel
theorem dX12_bid_12 : decode cX12_bid 12 = .ok (.ifCond .ne 6, 3) := by decide +kernel
theorem dX12_bid_15 : decode cX12_bid 15 = .ok (.bipush (-2), 2) := by decide +kernel
theorem dX12_bid_17 : decode cX12_bid 17 = .ok (.ireturn, 1) := by decide +kernel
theorem dX12_bid_18 : decode cX12_bid 18 = .ok (.sipush 1290, 3) := by decide +kernel
theorem dX12_bid_21 : decode cX12_bid 21 = .ok (.iload_n 1, 1) := by decide +kernel
theorem dX12_bid_22 : decode cX12_bid 22 = .ok (.imul, 1) := by decide +kernel
theorem dX12_bid_23 : decode cX12_bid 23 = .ok (.istore 5, 2) := by decide +kernel
theorem dX12_bid_25 : decode cX12_bid 25 = .ok (.iload_n 3, 1) := by decide +kernel
theorem dX12_bid_26 : decode cX12_bid 26 = .ok (.iconst 1, 1) := by decide +kernel
theorem dX12_bid_27 : decode cX12_bid 27 = .ok (.aload_n 0, 1) := by decide +kernel
theorem dX12_bid_28 : decode cX12_bid 28 = .ok (.iload 5, 2) := by decide +kernel
theorem dX12_bid_30 : decode cX12_bid 30 = .ok (.invokevirtual 155, 3) := by decide +kernel
theorem dX12_bid_33 : decode cX12_bid 33 = .ok (.invokestatic 91, 3) := by decide +kernel
theorem dX12_bid_36 : decode cX12_bid 36 = .ok (.ifCond .eq 13, 3) := by decide +kernel
theorem dX12_bid_39 : decode cX12_bid 39 = .ok (.iload 4, 2) := by decide +kernel
theorem dX12_bid_41 : decode cX12_bid 41 = .ok (.iconst 0, 1) := by decide +kernel
theorem dX12_bid_42 : decode cX12_bid 42 = .ok (.iconst 3, 1) := by decide +kernel
theorem dX12_bid_43 : decode cX12_bid 43 = .ok (.invokestatic 91, 3) := by decide +kernel
theorem dX12_bid_46 : decode cX12_bid 46 = .ok (.ifCond .ne 6, 3) := by decide +kernel
theorem dX12_bid_49 : decode cX12_bid 49 = .ok (.bipush (-3), 2) := by decide +kernel
theorem dX12_bid_51 : decode cX12_bid 51 = .ok (.ireturn, 1) := by decide +kernel
theorem dX12_bid_52 : decode cX12_bid 52 = .ok (.aload_n 0, 1) := by decide +kernel
theorem dX12_bid_53 : decode cX12_bid 53 = .ok (.iload 5, 2) := by decide +kernel
theorem dX12_bid_55 : decode cX12_bid 55 = .ok (.iload_n 2, 1) := by decide +kernel
theorem dX12_bid_56 : decode cX12_bid 56 = .ok (.iload_n 3, 1) := by decide +kernel
theorem dX12_bid_57 : decode cX12_bid 57 = .ok (.iload 4, 2) := by decide +kernel
theorem dX12_bid_59 : decode cX12_bid 59 = .ok (.invokevirtual 187, 3) := by decide +kernel
theorem dX12_bid_62 : decode cX12_bid 62 = .ok (.ifCond .ne 6, 3) := by decide +kernel
theorem dX12_bid_65 : decode cX12_bid 65 = .ok (.bipush (-4), 2) := by decide +kernel
theorem dX12_bid_67 : decode cX12_bid 67 = .ok (.ireturn, 1) := by decide +kernel
theorem dX12_bid_68 : decode cX12_bid 68 = .ok (.aload_n 0, 1) := by decide +kernel
theorem dX12_bid_69 : decode cX12_bid 69 = .ok (.iload_n 1, 1) := by decide +kernel
theorem dX12_bid_70 : decode cX12_bid 70 = .ok (.invokevirtual 165, 3) := by decide +kernel
theorem dX12_bid_73 : decode cX12_bid 73 = .ok (.aload_n 0, 1) := by decide +kernel
theorem dX12_bid_74 : decode cX12_bid 74 = .ok (.iload 5, 2) := by decide +kernel
theorem dX12_bid_76 : decode cX12_bid 76 = .ok (.iconst 2, 1) := by decide +kernel
theorem dX12_bid_77 : decode cX12_bid 77 = .ok (.iload_n 2, 1) := by decide +kernel
theorem dX12_bid_78 : decode cX12_bid 78 = .ok (.iload_n 3, 1) := by decide +kernel
theorem dX12_bid_79 : decode cX12_bid 79 = .ok (.iload 4, 2) := by decide +kernel
theorem dX12_bid_81 : decode cX12_bid 81 = .ok (.invokevirtual 171, 3) := by decide +kernel
theorem dX12_bid_84 : decode cX12_bid 84 = .ok (.aload_n 0, 1) := by decide +kernel
theorem dX12_bid_85 : decode cX12_bid 85 = .ok (.iload 5, 2) := by decide +kernel
theorem dX12_bid_87 : decode cX12_bid 87 = .ok (.iload_n 2, 1) := by decide +kernel
theorem dX12_bid_88 : decode cX12_bid 88 = .ok (.iload_n 3, 1) := by decide +kernel
theorem dX12_bid_89 : decode cX12_bid 89 = .ok (.iload 4, 2) := by decide +kernel
theorem dX12_bid_91 : decode cX12_bid 91 = .ok (.invokevirtual 191, 3) := by decide +kernel
theorem dX12_bid_94 : decode cX12_bid 94 = .ok (.iconst 1, 1) := by decide +kernel
theorem dX12_bid_95 : decode cX12_bid 95 = .ok (.ireturn, 1) := by decide +kernel
theorem dX12_canDouble_0 : decode cX12_canDouble 0 = .ok (.aload_n 0, 1) := by decide +kernel
theorem dX12_canDouble_1 : decode cX12_canDouble 1 = .ok (.getfield 8, 3) := by decide +kernel
theorem dX12_canDouble_4 : decode cX12_canDouble 4 = .ok (.iload_n 1, 1) := by decide +kernel
theorem dX12_canDouble_5 : decode cX12_canDouble 5 = .ok (.bipush 12, 2) := by decide +kernel
theorem dX12_canDouble_7 : decode cX12_canDouble 7 = .ok (.iadd, 1) := by decide +kernel
theorem dX12_canDouble_8 : decode cX12_canDouble 8 = .ok (.iaload, 1) := by decide +kernel
theorem dX12_canDouble_9 : decode cX12_canDouble 9 = .ok (.iconst 2, 1) := by decide +kernel
theorem dX12_canDouble_10 : decode cX12_canDouble 10 = .ok (.irem, 1) := by decide +kernel
theorem dX12_canDouble_11 : decode cX12_canDouble 11 = .ok (.iload_n 2, 1) := by decide +kernel
theorem dX12_canDouble_12 : decode cX12_canDouble 12 = .ok (.iconst 2, 1) := by decide +kernel
theorem dX12_canDouble_13 : decode cX12_canDouble 13 = .ok (.irem, 1) := by decide +kernel
theorem dX12_canDouble_14 : decode cX12_canDouble 14 = .ok (.if_icmp .ne 7, 3) := by decide +kernel
theorem dX12_canDouble_17 : decode cX12_canDouble 17 = .ok (.iconst 1, 1) := by decide +kernel
theorem dX12_canDouble_18 : decode cX12_canDouble 18 = .ok (.goto 4, 3) := by decide +kernel
theorem dX12_canDouble_21 : decode cX12_canDouble 21 = .ok (.iconst 0, 1) := by decide +kernel
theorem dX12_canDouble_22 : decode cX12_canDouble 22 = .ok (.istore_n 3, 1) := by decide +kernel
theorem dX12_canDouble_23 : decode cX12_canDouble 23 = .ok (.aload_n 0, 1) := by decide +kernel
theorem dX12_canDouble_24 : decode cX12_canDouble 24 = .ok (.getfield 8, 3) := by decide +kernel
theorem dX12_canDouble_27 : decode cX12_canDouble 27 = .ok (.iload_n 1, 1) := by decide +kernel
theorem dX12_canDouble_28 : decode cX12_canDouble 28 = .ok (.bipush 13, 2) := by decide +kernel
theorem dX12_canDouble_30 : decode cX12_canDouble 30 = .ok (.iadd, 1) := by decide +kernel
theorem dX12_canDouble_31 : decode cX12_canDouble 31 = .ok (.iaload, 1) := by decide +kernel
theorem dX12_canDouble_32 : decode cX12_canDouble 32 = .ok (.istore 4, 2) := by decide +kernel
theorem dX12_canDouble_34 : decode cX12_canDouble 34 = .ok (.aload_n 0, 1) := by decide +kernel
theorem dX12_canDouble_35 : decode cX12_canDouble 35 = .ok (.getfield 8, 3) := by decide +kernel
theorem dX12_canDouble_38 : decode cX12_canDouble 38 = .ok (.iload_n 1, 1) := by decide +kernel
theorem dX12_canDouble_39 : decode cX12_canDouble 39 = .ok (.bipush 10, 2) := by decide +kernel
theorem dX12_canDouble_41 : decode cX12_canDouble 41 = .ok (.iadd, 1) := by decide +kernel
theorem dX12_canDouble_42 : decode cX12_canDouble 42 = .ok (.iaload, 1) := by decide +kernel
theorem dX12_canDouble_43 : decode cX12_canDouble 43 = .ok (.ifCond .le 35, 3) := by decide +kernel
theorem dX12_canDouble_46 : decode cX12_canDouble 46 = .ok (.aload_n 0, 1) := by decide +kernel
theorem dX12_canDouble_47 : decode cX12_canDouble 47 = .ok (.iload_n 1, 1) := by decide +kernel
theorem dX12_canDouble_48 : decode cX12_canDouble 48 = .ok (.iload_n 2, 1) := by decide +kernel
theorem dX12_canDouble_49 : decode cX12_canDouble 49 = .ok (.invokevirtual 178, 3) := by decide +kernel
theorem dX12_canDouble_52 : decode cX12_canDouble 52 = .ok (.ifCond .eq 26, 3) := by decide +kernel
theorem dX12_canDouble_55 : decode cX12_canDouble 55 = .ok (.iload 4, 2) := by decide +kernel
theorem dX12_canDouble_57 : decode cX12_canDouble 57 = .ok (.ifCond .ne 7, 3) := by decide +kernel
theorem dX12_canDouble_60 : decode cX12_canDouble 60 = .ok (.iload_n 3, 1) := by decide +kernel
theorem dX12_canDouble_61 : decode cX12_canDouble 61 = .ok (.ifCond .eq 13, 3) := by decide +kernel
theorem dX12_canDouble_64 : decode cX12_canDouble 64 = .ok (.iload 4, 2) := by decide +kernel
theorem dX12_canDouble_66 : decode cX12_canDouble 66 = .ok (.iconst 1, 1) := by decide +kernel
theorem dX12_canDouble_67 : decode cX12_canDouble 67 = .ok (.if_icmp .ne 11, 3) := by decide +kernel
theorem dX12_canDouble_70 : decode cX12_canDouble 70 = .ok (.iload_n 3, 1) := by decide +kernel
theorem dX12_canDouble_71 : decode cX12_canDouble 71 = .ok (.ifCond .eq 7, 3) := by decide +kernel
theorem dX12_canDouble_74 : decode cX12_canDouble 74 = .ok (.iconst 1, 1) := by decide +kernel
theorem dX12_canDouble_75 : decode cX12_canDouble 75 = .ok (.goto 4, 3) := by decide +kernel
theorem dX12_canDouble_78 : decode cX12_canDouble 78 = .ok (.iconst 0, 1) := by decide +kernel
theorem dX12_canDouble_79 : decode cX12_canDouble 79 = .ok (.ireturn, 1) := by decide +kernel
theorem dX12_doubled_0 : decode cX12_doubled 0 = .ok (.aload_n 0, 1) := by decide +kernel
theorem dX12_doubled_1 : decode cX12_doubled 1 = .ok (.iload_n 1, 1) := by decide +kernel
theorem dX12_doubled_2 : decode cX12_doubled 2 = .ok (.invokevirtual 107, 3) := by decide +kernel
theorem dX12_doubled_5 : decode cX12_doubled 5 = .ok (.ifCond .eq 10, 3) := by decide +kernel
theorem dX12_doubled_8 : decode cX12_doubled 8 = .ok (.iload_n 2, 1) := by decide +kernel
theorem dX12_doubled_9 : decode cX12_doubled 9 = .ok (.invokestatic 110, 3) := by decide +kernel
theorem dX12_doubled_12 : decode cX12_doubled 12 = .ok (.ifCond .ne 6, 3) := by decide +kernel
theorem dX12_doubled_15 : decode cX12_doubled 15 = .ok (.bipush (-2), 2) := by decide +kernel
theorem dX12_doubled_17 : decode cX12_doubled 17 = .ok (.ireturn, 1) := by decide +kernel
theorem dX12_doubled_18 : decode cX12_doubled 18 = .ok (.sipush 1290, 3) := by decide +kernel
theorem dX12_doubled_21 : decode cX12_doubled 21 = .ok (.iload_n 1, 1) := by decide +kernel
theorem dX12_doubled_22 : decode cX12_doubled 22 = .ok (.imul, 1) := by decide +kernel
theorem dX12_doubled_23 : decode cX12_doubled 23 = .ok (.istore_n 3, 1) := by decide +kernel
theorem dX12_doubled_24 : decode cX12_doubled 24 = .ok (.aload_n 0, 1) := by decide +kernel
theorem dX12_doubled_25 : decode cX12_doubled 25 = .ok (.iload_n 3, 1) := by decide +kernel
theorem dX12_doubled_26 : decode cX12_doubled 26 = .ok (.iload_n 2, 1) := by decide +kernel
theorem dX12_doubled_27 : decode cX12_doubled 27 = .ok (.invokevirtual 195, 3) := by decide +kernel
theorem dX12_doubled_30 : decode cX12_doubled 30 = .ok (.ifCond .ne 6, 3) := by decide +kernel
theorem dX12_doubled_33 : decode cX12_doubled 33 = .ok (.bipush (-4), 2) := by decide +kernel
theorem dX12_doubled_35 : decode cX12_doubled 35 = .ok (.ireturn, 1) := by decide +kernel
theorem dX12_doubled_36 : decode cX12_doubled 36 = .ok (.aload_n 0, 1) := by decide +kernel
theorem dX12_doubled_37 : decode cX12_doubled 37 = .ok (.iload_n 1, 1) := by decide +kernel
theorem dX12_doubled_38 : decode cX12_doubled 38 = .ok (.invokevirtual 165, 3) := by decide +kernel
theorem dX12_doubled_41 : decode cX12_doubled 41 = .ok (.aload_n 0, 1) := by decide +kernel
theorem dX12_doubled_42 : decode cX12_doubled 42 = .ok (.iload_n 3, 1) := by decide +kernel
theorem dX12_doubled_43 : decode cX12_doubled 43 = .ok (.iconst 3, 1) := by decide +kernel
theorem dX12_doubled_44 : decode cX12_doubled 44 = .ok (.iload_n 2, 1) := by decide +kernel
theorem dX12_doubled_45 : decode cX12_doubled 45 = .ok (.iconst 0, 1) := by decide +kernel
theorem dX12_doubled_46 : decode cX12_doubled 46 = .ok (.iconst 0, 1) := by decide +kernel
theorem dX12_doubled_47 : decode cX12_doubled 47 = .ok (.invokevirtual 171, 3) := by decide +kernel
theorem dX12_doubled_50 : decode cX12_doubled 50 = .ok (.aload_n 0, 1) := by decide +kernel
theorem dX12_doubled_51 : decode cX12_doubled 51 = .ok (.getfield 8, 3) := by decide +kernel
theorem dX12_doubled_54 : decode cX12_doubled 54 = .ok (.iload_n 3, 1) := by decide +kernel
theorem dX12_doubled_55 : decode cX12_doubled 55 = .ok (.bipush 13, 2) := by decide +kernel
theorem dX12_doubled_57 : decode cX12_doubled 57 = .ok (.iadd, 1) := by decide +kernel
theorem dX12_doubled_58 : decode cX12_doubled 58 = .ok (.dup2, 1) := by decide +kernel
theorem dX12_doubled_59 : decode cX12_doubled 59 = .ok (.iaload, 1) := by decide +kernel
theorem dX12_doubled_60 : decode cX12_doubled 60 = .ok (.iconst 1, 1) := by decide +kernel
theorem dX12_doubled_61 : decode cX12_doubled 61 = .ok (.iadd, 1) := by decide +kernel
theorem dX12_doubled_62 : decode cX12_doubled 62 = .ok (.iastore, 1) := by decide +kernel
theorem dX12_doubled_63 : decode cX12_doubled 63 = .ok (.aload_n 0, 1) := by decide +kernel
theorem dX12_doubled_64 : decode cX12_doubled 64 = .ok (.getfield 8, 3) := by decide +kernel
theorem dX12_doubled_67 : decode cX12_doubled 67 = .ok (.iload_n 3, 1) := by decide +kernel
theorem dX12_doubled_68 : decode cX12_doubled 68 = .ok (.bipush 13, 2) := by decide +kernel
theorem dX12_doubled_70 : decode cX12_doubled 70 = .ok (.iadd, 1) := by decide +kernel
theorem dX12_doubled_71 : decode cX12_doubled 71 = .ok (.iaload, 1) := by decide +kernel
theorem dX12_doubled_72 : decode cX12_doubled 72 = .ok (.ireturn, 1) := by decide +kernel
theorem dX12_look_0 : decode cX12_look 0 = .ok (.aload_n 0, 1) := by decide +kernel
theorem dX12_look_1 : decode cX12_look 1 = .ok (.iconst 0, 1) := by decide +kernel
theorem dX12_look_2 : decode cX12_look 2 = .ok (.putfield 117, 3) := by decide +kernel
theorem dX12_look_5 : decode cX12_look 5 = .ok (.iconst 0, 1) := by decide +kernel
theorem dX12_look_6 : decode cX12_look 6 = .ok (.istore_n 3, 1) := by decide +kernel
theorem dX12_look_7 : decode cX12_look 7 = .ok (.iload_n 3, 1) := by decide +kernel
theorem dX12_look_8 : decode cX12_look 8 = .ok (.aload_n 0, 1) := by decide +kernel
theorem dX12_look_9 : decode cX12_look 9 = .ok (.getfield 8, 3) := by decide +kernel
theorem dX12_look_12 : decode cX12_look 12 = .ok (.iload_n 1, 1) := by decide +kernel
theorem dX12_look_13 : decode cX12_look 13 = .ok (.bipush 22, 2) := by decide +kernel
theorem dX12_look_15 : decode cX12_look 15 = .ok (.iadd, 1) := by decide +kernel
theorem dX12_look_16 : decode cX12_look 16 = .ok (.iload_n 2, 1) := by decide +kernel
theorem dX12_look_17 : decode cX12_look 17 = .ok (.iadd, 1) := by decide +kernel
theorem dX12_look_18 : decode cX12_look 18 = .ok (.iaload, 1) := by decide +kernel
theorem dX12_look_19 : decode cX12_look 19 = .ok (.if_icmp .ge 42, 3) := by decide +kernel
theorem dX12_look_22 : decode cX12_look 22 = .ok (.aload_n 0, 1) := by decide +kernel
theorem dX12_look_23 : decode cX12_look 23 = .ok (.getfield 36, 3) := by decide +kernel
theorem dX12_look_26 : decode cX12_look 26 = .ok (.iload_n 3, 1) := by decide +kernel
theorem dX12_look_27 : decode cX12_look 27 = .ok (.aload_n 0, 1) := by decide +kernel
theorem dX12_look_28 : decode cX12_look 28 = .ok (.getfield 8, 3) := by decide +kernel
theorem dX12_look_31 : decode cX12_look 31 = .ok (.iload_n 1, 1) := by decide +kernel
theorem dX12_look_32 : decode cX12_look 32 = .ok (.sipush 230, 3) := by decide +kernel
theorem dX12_look_35 : decode cX12_look 35 = .ok (.iadd, 1) := by decide +kernel
theorem dX12_look_36 : decode cX12_look 36 = .ok (.bipush 60, 2) := by decide +kernel
theorem dX12_look_38 : decode cX12_look 38 = .ok (.iload_n 2, 1) := by decide +kernel
theorem dX12_look_39 : decode cX12_look 39 = .ok (.imul, 1) := by decide +kernel
theorem dX12_look_40 : decode cX12_look 40 = .ok (.iadd, 1) := by decide +kernel
theorem dX12_look_41 : decode cX12_look 41 = .ok (.iload_n 3, 1) := by decide +kernel
theorem dX12_look_42 : decode cX12_look 42 = .ok (.iadd, 1) := by decide +kernel
theorem dX12_look_43 : decode cX12_look 43 = .ok (.iaload, 1) := by decide +kernel
theorem dX12_look_44 : decode cX12_look 44 = .ok (.iastore, 1) := by decide +kernel
theorem dX12_look_45 : decode cX12_look 45 = .ok (.aload_n 0, 1) := by decide +kernel
theorem dX12_look_46 : decode cX12_look 46 = .ok (.dup, 1) := by decide +kernel
theorem dX12_look_47 : decode cX12_look 47 = .ok (.getfield 117, 3) := by decide +kernel
theorem dX12_look_50 : decode cX12_look 50 = .ok (.iconst 1, 1) := by decide +kernel
theorem dX12_look_51 : decode cX12_look 51 = .ok (.iadd, 1) := by decide +kernel
theorem dX12_look_52 : decode cX12_look 52 = .ok (.putfield 117, 3) := by decide +kernel
theorem dX12_look_55 : decode cX12_look 55 = .ok (.iinc 3 1, 3) := by decide +kernel
theorem dX12_look_58 : decode cX12_look 58 = .ok (.goto (-51), 3) := by decide +kernel
theorem dX12_look_61 : decode cX12_look 61 = .ok (.aload_n 0, 1) := by decide +kernel
theorem dX12_look_62 : decode cX12_look 62 = .ok (.aload_n 0, 1) := by decide +kernel
theorem dX12_look_63 : decode cX12_look 63 = .ok (.getfield 8, 3) := by decide +kernel
theorem dX12_look_66 : decode cX12_look 66 = .ok (.iload_n 1, 1) := by decide +kernel
theorem dX12_look_67 : decode cX12_look 67 = .ok (.bipush 26, 2) := by decide +kernel
theorem dX12_look_69 : decode cX12_look 69 = .ok (.iadd, 1) := by decide +kernel
theorem dX12_look_70 : decode cX12_look 70 = .ok (.iaload, 1) := by decide +kernel
theorem dX12_look_71 : decode cX12_look 71 = .ok (.putfield 127, 3) := by decide +kernel
theorem dX12_look_74 : decode cX12_look 74 = .ok (.iconst 0, 1) := by decide +kernel
theorem dX12_look_75 : decode cX12_look 75 = .ok (.istore_n 3, 1) := by decide +kernel
theorem dX12_look_76 : decode cX12_look 76 = .ok (.iload_n 3, 1) := by decide +kernel
theorem dX12_look_77 : decode cX12_look 77 = .ok (.aload_n 0, 1) := by decide +kernel
theorem dX12_look_78 : decode cX12_look 78 = .ok (.getfield 127, 3) := by decide +kernel
theorem dX12_look_81 : decode cX12_look 81 = .ok (.if_icmp .ge 26, 3) := by decide +kernel
theorem dX12_look_84 : decode cX12_look 84 = .ok (.aload_n 0, 1) := by decide +kernel
theorem dX12_look_85 : decode cX12_look 85 = .ok (.getfield 39, 3) := by decide +kernel
theorem dX12_look_88 : decode cX12_look 88 = .ok (.iload_n 3, 1) := by decide +kernel
theorem dX12_look_89 : decode cX12_look 89 = .ok (.aload_n 0, 1) := by decide +kernel
theorem dX12_look_90 : decode cX12_look 90 = .ok (.getfield 8, 3) := by decide +kernel
theorem dX12_look_93 : decode cX12_look 93 = .ok (.iload_n 1, 1) := by decide +kernel
theorem dX12_look_94 : decode cX12_look 94 = .ok (.bipush 27, 2) := by decide +kernel
theorem dX12_look_96 : decode cX12_look 96 = .ok (.iadd, 1) := by decide +kernel
theorem dX12_look_97 : decode cX12_look 97 = .ok (.iload_n 3, 1) := by decide +kernel
theorem dX12_look_98 : decode cX12_look 98 = .ok (.iadd, 1) := by decide +kernel
theorem dX12_look_99 : decode cX12_look 99 = .ok (.iaload, 1) := by decide +kernel
theorem dX12_look_100 : decode cX12_look 100 = .ok (.iastore, 1) := by decide +kernel
theorem dX12_look_101 : decode cX12_look 101 = .ok (.iinc 3 1, 3) := by decide +kernel
theorem dX12_look_104 : decode cX12_look 104 = .ok (.goto (-28), 3) := by decide +kernel
theorem dX12_look_107 : decode cX12_look 107 = .ok (.return_, 1) := by decide +kernel
theorem dX12_meets_0 : decode cX12_meets 0 = .ok (.aload_n 0, 1) := by decide +kernel
theorem dX12_meets_1 : decode cX12_meets 1 = .ok (.getfield 8, 3) := by decide +kernel
theorem dX12_meets_4 : decode cX12_meets 4 = .ok (.iload_n 1, 1) := by decide +kernel
theorem dX12_meets_5 : decode cX12_meets 5 = .ok (.bipush 35, 2) := by decide +kernel
theorem dX12_meets_7 : decode cX12_meets 7 = .ok (.iadd, 1) := by decide +kernel
theorem dX12_meets_8 : decode cX12_meets 8 = .ok (.iload_n 2, 1) := by decide +kernel
theorem dX12_meets_9 : decode cX12_meets 9 = .ok (.iadd, 1) := by decide +kernel
theorem dX12_meets_10 : decode cX12_meets 10 = .ok (.iaload, 1) := by decide +kernel
theorem dX12_meets_11 : decode cX12_meets 11 = .ok (.ifCond .ne 5, 3) := by decide +kernel
theorem dX12_meets_14 : decode cX12_meets 14 = .ok (.iconst 1, 1) := by decide +kernel
theorem dX12_meets_15 : decode cX12_meets 15 = .ok (.ireturn, 1) := by decide +kernel
theorem dX12_meets_16 : decode cX12_meets 16 = .ok (.aload_n 0, 1) := by decide +kernel
theorem dX12_meets_17 : decode cX12_meets 17 = .ok (.getfield 8, 3) := by decide +kernel
theorem dX12_meets_20 : decode cX12_meets 20 = .ok (.iload_n 1, 1) := by decide +kernel
theorem dX12_meets_21 : decode cX12_meets 21 = .ok (.bipush 22, 2) := by decide +kernel
theorem dX12_meets_23 : decode cX12_meets 23 = .ok (.iadd, 1) := by decide +kernel
theorem dX12_meets_24 : decode cX12_meets 24 = .ok (.iload_n 2, 1) := by decide +kernel
theorem dX12_meets_25 : decode cX12_meets 25 = .ok (.iadd, 1) := by decide +kernel
theorem dX12_meets_26 : decode cX12_meets 26 = .ok (.iaload, 1) := by decide +kernel
theorem dX12_meets_27 : decode cX12_meets 27 = .ok (.iconst (-1), 1) := by decide +kernel
theorem dX12_meets_28 : decode cX12_meets 28 = .ok (.if_icmp .ne 5, 3) := by decide +kernel
theorem dX12_meets_31 : decode cX12_meets 31 = .ok (.iconst 2, 1) := by decide +kernel
theorem dX12_meets_32 : decode cX12_meets 32 = .ok (.ireturn, 1) := by decide +kernel
theorem dX12_meets_33 : decode cX12_meets 33 = .ok (.iload_n 3, 1) := by decide +kernel
theorem dX12_meets_34 : decode cX12_meets 34 = .ok (.iconst 0, 1) := by decide +kernel
theorem dX12_meets_35 : decode cX12_meets 35 = .ok (.aload_n 0, 1) := by decide +kernel
theorem dX12_meets_36 : decode cX12_meets 36 = .ok (.getfield 8, 3) := by decide +kernel
theorem dX12_meets_39 : decode cX12_meets 39 = .ok (.iload_n 1, 1) := by decide +kernel
theorem dX12_meets_40 : decode cX12_meets 40 = .ok (.bipush 22, 2) := by decide +kernel
theorem dX12_meets_42 : decode cX12_meets 42 = .ok (.iadd, 1) := by decide +kernel
theorem dX12_meets_43 : decode cX12_meets 43 = .ok (.iload_n 2, 1) := by decide +kernel
theorem dX12_meets_44 : decode cX12_meets 44 = .ok (.iadd, 1) := by decide +kernel
theorem dX12_meets_45 : decode cX12_meets 45 = .ok (.iaload, 1) := by decide +kernel
theorem dX12_meets_46 : decode cX12_meets 46 = .ok (.iconst 1, 1) := by decide +kernel
theorem dX12_meets_47 : decode cX12_meets 47 = .ok (.isub, 1) := by decide +kernel
theorem dX12_meets_48 : decode cX12_meets 48 = .ok (.invokestatic 91, 3) := by decide +kernel
theorem dX12_meets_51 : decode cX12_meets 51 = .ok (.ifCond .ne 5, 3) := by decide +kernel
theorem dX12_meets_54 : decode cX12_meets 54 = .ok (.iconst 3, 1) := by decide +kernel
theorem dX12_meets_55 : decode cX12_meets 55 = .ok (.ireturn, 1) := by decide +kernel
theorem dX12_meets_56 : decode cX12_meets 56 = .ok (.iload 4, 2) := by decide +kernel
theorem dX12_meets_58 : decode cX12_meets 58 = .ok (.ifCond .eq 18, 3) := by decide +kernel
theorem dX12_meets_61 : decode cX12_meets 61 = .ok (.aload_n 0, 1) := by decide +kernel
theorem dX12_meets_62 : decode cX12_meets 62 = .ok (.getfield 8, 3) := by decide +kernel
theorem dX12_meets_65 : decode cX12_meets 65 = .ok (.iload_n 1, 1) := by decide +kernel
theorem dX12_meets_66 : decode cX12_meets 66 = .ok (.bipush 9, 2) := by decide +kernel
theorem dX12_meets_68 : decode cX12_meets 68 = .ok (.iadd, 1) := by decide +kernel
theorem dX12_meets_69 : decode cX12_meets 69 = .ok (.iaload, 1) := by decide +kernel
theorem dX12_meets_70 : decode cX12_meets 70 = .ok (.iload_n 2, 1) := by decide +kernel
theorem dX12_meets_71 : decode cX12_meets 71 = .ok (.if_icmp .eq 5, 3) := by decide +kernel
theorem dX12_meets_74 : decode cX12_meets 74 = .ok (.iconst 4, 1) := by decide +kernel
theorem dX12_meets_75 : decode cX12_meets 75 = .ok (.ireturn, 1) := by decide +kernel
theorem dX12_meets_76 : decode cX12_meets 76 = .ok (.aload_n 0, 1) := by decide +kernel
theorem dX12_meets_77 : decode cX12_meets 77 = .ok (.getfield 8, 3) := by decide +kernel
theorem dX12_meets_80 : decode cX12_meets 80 = .ok (.iload_n 1, 1) := by decide +kernel
theorem dX12_meets_81 : decode cX12_meets 81 = .ok (.bipush 50, 2) := by decide +kernel
theorem dX12_meets_83 : decode cX12_meets 83 = .ok (.iadd, 1) := by decide +kernel
theorem dX12_meets_84 : decode cX12_meets 84 = .ok (.aload_n 0, 1) := by decide +kernel
theorem dX12_meets_85 : decode cX12_meets 85 = .ok (.getfield 8, 3) := by decide +kernel
theorem dX12_meets_88 : decode cX12_meets 88 = .ok (.iload_n 1, 1) := by decide +kernel
theorem dX12_meets_89 : decode cX12_meets 89 = .ok (.sipush 230, 3) := by decide +kernel
theorem dX12_meets_92 : decode cX12_meets 92 = .ok (.iadd, 1) := by decide +kernel
theorem dX12_meets_93 : decode cX12_meets 93 = .ok (.bipush 60, 2) := by decide +kernel
theorem dX12_meets_95 : decode cX12_meets 95 = .ok (.iload_n 2, 1) := by decide +kernel
theorem dX12_meets_96 : decode cX12_meets 96 = .ok (.imul, 1) := by decide +kernel
theorem dX12_meets_97 : decode cX12_meets 97 = .ok (.iadd, 1) := by decide +kernel
theorem dX12_meets_98 : decode cX12_meets 98 = .ok (.iload_n 3, 1) := by decide +kernel
theorem dX12_meets_99 : decode cX12_meets 99 = .ok (.iadd, 1) := by decide +kernel
theorem dX12_meets_100 : decode cX12_meets 100 = .ok (.iaload, 1) := by decide +kernel
theorem dX12_meets_101 : decode cX12_meets 101 = .ok (.iadd, 1) := by decide +kernel
theorem dX12_meets_102 : decode cX12_meets 102 = .ok (.iaload, 1) := by decide +kernel
theorem dX12_meets_103 : decode cX12_meets 103 = .ok (.iconst 3, 1) := by decide +kernel
theorem dX12_meets_104 : decode cX12_meets 104 = .ok (.if_icmp .ne 7, 3) := by decide +kernel
theorem dX12_meets_107 : decode cX12_meets 107 = .ok (.iconst 5, 1) := by decide +kernel
theorem dX12_meets_108 : decode cX12_meets 108 = .ok (.goto 4, 3) := by decide +kernel
theorem dX12_meets_111 : decode cX12_meets 111 = .ok (.iconst 0, 1) := by decide +kernel
theorem dX12_meets_112 : decode cX12_meets 112 = .ok (.ireturn, 1) := by decide +kernel
theorem dX12_playMeets_0 : decode cX12_playMeets 0 = .ok (.aload_n 0, 1) := by decide +kernel
theorem dX12_playMeets_1 : decode cX12_playMeets 1 = .ok (.iconst 0, 1) := by decide +kernel
theorem dX12_playMeets_2 : decode cX12_playMeets 2 = .ok (.putfield 198, 3) := by decide +kernel
theorem dX12_playMeets_5 : decode cX12_playMeets 5 = .ok (.aload_n 0, 1) := by decide +kernel
theorem dX12_playMeets_6 : decode cX12_playMeets 6 = .ok (.iload_n 1, 1) := by decide +kernel
theorem dX12_playMeets_7 : decode cX12_playMeets 7 = .ok (.iload_n 2, 1) := by decide +kernel
theorem dX12_playMeets_8 : decode cX12_playMeets 8 = .ok (.iload_n 3, 1) := by decide +kernel
theorem dX12_playMeets_9 : decode cX12_playMeets 9 = .ok (.iconst 1, 1) := by decide +kernel
theorem dX12_playMeets_10 : decode cX12_playMeets 10 = .ok (.invokevirtual 201, 3) := by decide +kernel
theorem dX12_playMeets_13 : decode cX12_playMeets 13 = .ok (.istore 5, 2) := by decide +kernel
theorem dX12_playMeets_15 : decode cX12_playMeets 15 = .ok (.iload 5, 2) := by decide +kernel
theorem dX12_playMeets_17 : decode cX12_playMeets 17 = .ok (.ifCond .le 6, 3) := by decide +kernel
theorem dX12_playMeets_20 : decode cX12_playMeets 20 = .ok (.iload 5, 2) := by decide +kernel
theorem dX12_playMeets_22 : decode cX12_playMeets 22 = .ok (.ireturn, 1) := by decide +kernel
theorem dX12_playMeets_23 : decode cX12_playMeets 23 = .ok (.aload_n 0, 1) := by decide +kernel
theorem dX12_playMeets_24 : decode cX12_playMeets 24 = .ok (.iload_n 1, 1) := by decide +kernel
theorem dX12_playMeets_25 : decode cX12_playMeets 25 = .ok (.iload_n 2, 1) := by decide +kernel
theorem dX12_playMeets_26 : decode cX12_playMeets 26 = .ok (.invokevirtual 205, 3) := by decide +kernel
theorem dX12_playMeets_29 : decode cX12_playMeets 29 = .ok (.aload_n 0, 1) := by decide +kernel
theorem dX12_playMeets_30 : decode cX12_playMeets 30 = .ok (.aload_n 0, 1) := by decide +kernel
theorem dX12_playMeets_31 : decode cX12_playMeets 31 = .ok (.iload_n 1, 1) := by decide +kernel
theorem dX12_playMeets_32 : decode cX12_playMeets 32 = .ok (.aload_n 0, 1) := by decide +kernel
theorem dX12_playMeets_33 : decode cX12_playMeets 33 = .ok (.getfield 36, 3) := by decide +kernel
theorem dX12_playMeets_36 : decode cX12_playMeets 36 = .ok (.iload_n 3, 1) := by decide +kernel
theorem dX12_playMeets_37 : decode cX12_playMeets 37 = .ok (.iaload, 1) := by decide +kernel
theorem dX12_playMeets_38 : decode cX12_playMeets 38 = .ok (.invokevirtual 208, 3) := by decide +kernel
theorem dX12_playMeets_41 : decode cX12_playMeets 41 = .ok (.putfield 198, 3) := by decide +kernel
theorem dX12_playMeets_44 : decode cX12_playMeets 44 = .ok (.aload_n 0, 1) := by decide +kernel
theorem dX12_playMeets_45 : decode cX12_playMeets 45 = .ok (.getfield 198, 3) := by decide +kernel
theorem dX12_playMeets_48 : decode cX12_playMeets 48 = .ok (.ifCond .le 13, 3) := by decide +kernel
theorem dX12_playMeets_51 : decode cX12_playMeets 51 = .ok (.iload 4, 2) := by decide +kernel
theorem dX12_playMeets_53 : decode cX12_playMeets 53 = .ok (.ifCond .ne 8, 3) := by decide +kernel
theorem dX12_playMeets_56 : decode cX12_playMeets 56 = .ok (.bipush 6, 2) := by decide +kernel
theorem dX12_playMeets_58 : decode cX12_playMeets 58 = .ok (.goto 4, 3) := by decide +kernel
theorem dX12_playMeets_61 : decode cX12_playMeets 61 = .ok (.iconst 0, 1) := by decide +kernel
theorem dX12_playMeets_62 : decode cX12_playMeets 62 = .ok (.ireturn, 1) := by decide +kernel
theorem dX12_showFound_0 : decode cX12_showFound 0 = .ok (.iconst 0, 1) := by decide +kernel
theorem dX12_showFound_1 : decode cX12_showFound 1 = .ok (.istore 4, 2) := by decide +kernel
theorem dX12_showFound_3 : decode cX12_showFound 3 = .ok (.iload 4, 2) := by decide +kernel
theorem dX12_showFound_5 : decode cX12_showFound 5 = .ok (.aload_n 0, 1) := by decide +kernel
theorem dX12_showFound_6 : decode cX12_showFound 6 = .ok (.getfield 8, 3) := by decide +kernel
theorem dX12_showFound_9 : decode cX12_showFound 9 = .ok (.iload_n 1, 1) := by decide +kernel
theorem dX12_showFound_10 : decode cX12_showFound 10 = .ok (.bipush 43, 2) := by decide +kernel
theorem dX12_showFound_12 : decode cX12_showFound 12 = .ok (.iadd, 1) := by decide +kernel
theorem dX12_showFound_13 : decode cX12_showFound 13 = .ok (.iaload, 1) := by decide +kernel
theorem dX12_showFound_14 : decode cX12_showFound 14 = .ok (.if_icmp .ge 132, 3) := by decide +kernel
theorem dX12_showFound_17 : decode cX12_showFound 17 = .ok (.aload_n 0, 1) := by decide +kernel
theorem dX12_showFound_18 : decode cX12_showFound 18 = .ok (.getfield 8, 3) := by decide +kernel
theorem dX12_showFound_21 : decode cX12_showFound 21 = .ok (.iload_n 1, 1) := by decide +kernel
theorem dX12_showFound_22 : decode cX12_showFound 22 = .ok (.sipush 650, 3) := by decide +kernel
theorem dX12_showFound_25 : decode cX12_showFound 25 = .ok (.iadd, 1) := by decide +kernel
theorem dX12_showFound_26 : decode cX12_showFound 26 = .ok (.iload 4, 2) := by decide +kernel
theorem dX12_showFound_28 : decode cX12_showFound 28 = .ok (.iadd, 1) := by decide +kernel
theorem dX12_showFound_29 : decode cX12_showFound 29 = .ok (.iaload, 1) := by decide +kernel
theorem dX12_showFound_30 : decode cX12_showFound 30 = .ok (.iload_n 2, 1) := by decide +kernel
theorem dX12_showFound_31 : decode cX12_showFound 31 = .ok (.if_icmp .ne 65, 3) := by decide +kernel
theorem dX12_showFound_34 : decode cX12_showFound 34 = .ok (.aload_n 0, 1) := by decide +kernel
theorem dX12_showFound_35 : decode cX12_showFound 35 = .ok (.getfield 8, 3) := by decide +kernel
theorem dX12_showFound_38 : decode cX12_showFound 38 = .ok (.iload_n 1, 1) := by decide +kernel
theorem dX12_showFound_39 : decode cX12_showFound 39 = .ok (.sipush 830, 3) := by decide +kernel
theorem dX12_showFound_42 : decode cX12_showFound 42 = .ok (.iadd, 1) := by decide +kernel
theorem dX12_showFound_43 : decode cX12_showFound 43 = .ok (.iload 4, 2) := by decide +kernel
theorem dX12_showFound_45 : decode cX12_showFound 45 = .ok (.iadd, 1) := by decide +kernel
theorem dX12_showFound_46 : decode cX12_showFound 46 = .ok (.iaload, 1) := by decide +kernel
theorem dX12_showFound_47 : decode cX12_showFound 47 = .ok (.ifCond .ne 49, 3) := by decide +kernel
theorem dX12_showFound_50 : decode cX12_showFound 50 = .ok (.aload_n 0, 1) := by decide +kernel
theorem dX12_showFound_51 : decode cX12_showFound 51 = .ok (.getfield 8, 3) := by decide +kernel
theorem dX12_showFound_54 : decode cX12_showFound 54 = .ok (.iload_n 1, 1) := by decide +kernel
theorem dX12_showFound_55 : decode cX12_showFound 55 = .ok (.sipush 710, 3) := by decide +kernel
theorem dX12_showFound_58 : decode cX12_showFound 58 = .ok (.iadd, 1) := by decide +kernel
theorem dX12_showFound_59 : decode cX12_showFound 59 = .ok (.iload 4, 2) := by decide +kernel
theorem dX12_showFound_61 : decode cX12_showFound 61 = .ok (.iadd, 1) := by decide +kernel
theorem dX12_showFound_62 : decode cX12_showFound 62 = .ok (.iaload, 1) := by decide +kernel
theorem dX12_showFound_63 : decode cX12_showFound 63 = .ok (.iload_n 3, 1) := by decide +kernel
theorem dX12_showFound_64 : decode cX12_showFound 64 = .ok (.if_icmp .ne 32, 3) := by decide +kernel
theorem dX12_showFound_67 : decode cX12_showFound 67 = .ok (.aload_n 0, 1) := by decide +kernel
theorem dX12_showFound_68 : decode cX12_showFound 68 = .ok (.getfield 8, 3) := by decide +kernel
theorem dX12_showFound_71 : decode cX12_showFound 71 = .ok (.iload_n 1, 1) := by decide +kernel
theorem dX12_showFound_72 : decode cX12_showFound 72 = .ok (.sipush 770, 3) := by decide +kernel
theorem dX12_showFound_75 : decode cX12_showFound 75 = .ok (.iadd, 1) := by decide +kernel
theorem dX12_showFound_76 : decode cX12_showFound 76 = .ok (.iload 4, 2) := by decide +kernel
theorem dX12_showFound_78 : decode cX12_showFound 78 = .ok (.iadd, 1) := by decide +kernel
theorem dX12_showFound_79 : decode cX12_showFound 79 = .ok (.iaload, 1) := by decide +kernel
theorem dX12_showFound_80 : decode cX12_showFound 80 = .ok (.aload_n 0, 1) := by decide +kernel
theorem dX12_showFound_81 : decode cX12_showFound 81 = .ok (.getfield 8, 3) := by decide +kernel
theorem dX12_showFound_84 : decode cX12_showFound 84 = .ok (.iload_n 1, 1) := by decide +kernel
theorem dX12_showFound_85 : decode cX12_showFound 85 = .ok (.bipush 20, 2) := by decide +kernel
theorem dX12_showFound_87 : decode cX12_showFound 87 = .ok (.iadd, 1) := by decide +kernel
theorem dX12_showFound_88 : decode cX12_showFound 88 = .ok (.iaload, 1) := by decide +kernel
theorem dX12_showFound_89 : decode cX12_showFound 89 = .ok (.if_icmp .ge 7, 3) := by decide +kernel
theorem dX12_showFound_92 : decode cX12_showFound 92 = .ok (.iconst 1, 1) := by decide +kernel
theorem dX12_showFound_93 : decode cX12_showFound 93 = .ok (.goto 4, 3) := by decide +kernel
theorem dX12_showFound_96 : decode cX12_showFound 96 = .ok (.iconst 0, 1) := by decide +kernel
theorem dX12_showFound_97 : decode cX12_showFound 97 = .ok (.istore 5, 2) := by decide +kernel
theorem dX12_showFound_99 : decode cX12_showFound 99 = .ok (.iload 5, 2) := by decide +kernel
theorem dX12_showFound_101 : decode cX12_showFound 101 = .ok (.ifCond .eq 39, 3) := by decide +kernel
theorem dX12_showFound_104 : decode cX12_showFound 104 = .ok (.aload_n 0, 1) := by decide +kernel
theorem dX12_showFound_105 : decode cX12_showFound 105 = .ok (.getfield 8, 3) := by decide +kernel
theorem dX12_showFound_108 : decode cX12_showFound 108 = .ok (.iload_n 1, 1) := by decide +kernel
theorem dX12_showFound_109 : decode cX12_showFound 109 = .ok (.sipush 830, 3) := by decide +kernel
theorem dX12_showFound_112 : decode cX12_showFound 112 = .ok (.iadd, 1) := by decide +kernel
theorem dX12_showFound_113 : decode cX12_showFound 113 = .ok (.iload 4, 2) := by decide +kernel
theorem dX12_showFound_115 : decode cX12_showFound 115 = .ok (.iadd, 1) := by decide +kernel
theorem dX12_showFound_116 : decode cX12_showFound 116 = .ok (.iconst 1, 1) := by decide +kernel
theorem dX12_showFound_117 : decode cX12_showFound 117 = .ok (.iastore, 1) := by decide +kernel
theorem dX12_showFound_118 : decode cX12_showFound 118 = .ok (.aload_n 0, 1) := by decide +kernel
theorem dX12_showFound_119 : decode cX12_showFound 119 = .ok (.iload_n 1, 1) := by decide +kernel
theorem dX12_showFound_120 : decode cX12_showFound 120 = .ok (.aload_n 0, 1) := by decide +kernel
theorem dX12_showFound_121 : decode cX12_showFound 121 = .ok (.getfield 8, 3) := by decide +kernel
theorem dX12_showFound_124 : decode cX12_showFound 124 = .ok (.iload_n 1, 1) := by decide +kernel
theorem dX12_showFound_125 : decode cX12_showFound 125 = .ok (.sipush 770, 3) := by decide +kernel
theorem dX12_showFound_128 : decode cX12_showFound 128 = .ok (.iadd, 1) := by decide +kernel
theorem dX12_showFound_129 : decode cX12_showFound 129 = .ok (.iload 4, 2) := by decide +kernel
theorem dX12_showFound_131 : decode cX12_showFound 131 = .ok (.iadd, 1) := by decide +kernel
theorem dX12_showFound_132 : decode cX12_showFound 132 = .ok (.iaload, 1) := by decide +kernel
theorem dX12_showFound_133 : decode cX12_showFound 133 = .ok (.iload_n 2, 1) := by decide +kernel
theorem dX12_showFound_134 : decode cX12_showFound 134 = .ok (.iconst 2, 1) := by decide +kernel
theorem dX12_showFound_135 : decode cX12_showFound 135 = .ok (.irem, 1) := by decide +kernel
theorem dX12_showFound_136 : decode cX12_showFound 136 = .ok (.invokevirtual 211, 3) := by decide +kernel
theorem dX12_showFound_139 : decode cX12_showFound 139 = .ok (.return_, 1) := by decide +kernel
theorem dX12_showFound_140 : decode cX12_showFound 140 = .ok (.iinc 4 1, 3) := by decide +kernel
theorem dX12_showFound_143 : decode cX12_showFound 143 = .ok (.goto (-140), 3) := by decide +kernel
theorem dX12_showFound_146 : decode cX12_showFound 146 = .ok (.return_, 1) := by decide +kernel
theorem dX12_putRight_0 : decode cX12_putRight 0 = .ok (.aload_n 0, 1) := by decide +kernel
theorem dX12_putRight_1 : decode cX12_putRight 1 = .ok (.getfield 8, 3) := by decide +kernel
theorem dX12_putRight_4 : decode cX12_putRight 4 = .ok (.iload_n 1, 1) := by decide +kernel
theorem dX12_putRight_5 : decode cX12_putRight 5 = .ok (.sipush 530, 3) := by decide +kernel
theorem dX12_putRight_8 : decode cX12_putRight 8 = .ok (.iadd, 1) := by decide +kernel
theorem dX12_putRight_9 : decode cX12_putRight 9 = .ok (.iload_n 2, 1) := by decide +kernel
theorem dX12_putRight_10 : decode cX12_putRight 10 = .ok (.iadd, 1) := by decide +kernel
theorem dX12_putRight_11 : decode cX12_putRight 11 = .ok (.iaload, 1) := by decide +kernel
theorem dX12_putRight_12 : decode cX12_putRight 12 = .ok (.iload_n 3, 1) := by decide +kernel
theorem dX12_putRight_13 : decode cX12_putRight 13 = .ok (.if_icmp .eq 4, 3) := by decide +kernel
theorem dX12_putRight_16 : decode cX12_putRight 16 = .ok (.return_, 1) := by decide +kernel
theorem dX12_putRight_17 : decode cX12_putRight 17 = .ok (.iconst 1, 1) := by decide +kernel
theorem dX12_putRight_18 : decode cX12_putRight 18 = .ok (.iload_n 3, 1) := by decide +kernel
theorem dX12_putRight_19 : decode cX12_putRight 19 = .ok (.isub, 1) := by decide +kernel
theorem dX12_putRight_20 : decode cX12_putRight 20 = .ok (.istore 4, 2) := by decide +kernel
theorem dX12_putRight_22 : decode cX12_putRight 22 = .ok (.aload_n 0, 1) := by decide +kernel
theorem dX12_putRight_23 : decode cX12_putRight 23 = .ok (.getfield 8, 3) := by decide +kernel
theorem dX12_putRight_26 : decode cX12_putRight 26 = .ok (.iload_n 1, 1) := by decide +kernel
theorem dX12_putRight_27 : decode cX12_putRight 27 = .ok (.sipush 530, 3) := by decide +kernel
theorem dX12_putRight_30 : decode cX12_putRight 30 = .ok (.iadd, 1) := by decide +kernel
theorem dX12_putRight_31 : decode cX12_putRight 31 = .ok (.iload_n 2, 1) := by decide +kernel
theorem dX12_putRight_32 : decode cX12_putRight 32 = .ok (.iadd, 1) := by decide +kernel
theorem dX12_putRight_33 : decode cX12_putRight 33 = .ok (.iload 4, 2) := by decide +kernel
theorem dX12_putRight_35 : decode cX12_putRight 35 = .ok (.iastore, 1) := by decide +kernel
theorem dX12_putRight_36 : decode cX12_putRight 36 = .ok (.aload_n 0, 1) := by decide +kernel
theorem dX12_putRight_37 : decode cX12_putRight 37 = .ok (.getfield 8, 3) := by decide +kernel
theorem dX12_putRight_40 : decode cX12_putRight 40 = .ok (.iload_n 1, 1) := by decide +kernel
theorem dX12_putRight_41 : decode cX12_putRight 41 = .ok (.bipush 15, 2) := by decide +kernel
theorem dX12_putRight_43 : decode cX12_putRight 43 = .ok (.iadd, 1) := by decide +kernel
theorem dX12_putRight_44 : decode cX12_putRight 44 = .ok (.iload_n 3, 1) := by decide +kernel
theorem dX12_putRight_45 : decode cX12_putRight 45 = .ok (.iadd, 1) := by decide +kernel
theorem dX12_putRight_46 : decode cX12_putRight 46 = .ok (.dup2, 1) := by decide +kernel
theorem dX12_putRight_47 : decode cX12_putRight 47 = .ok (.iaload, 1) := by decide +kernel
theorem dX12_putRight_48 : decode cX12_putRight 48 = .ok (.iconst 1, 1) := by decide +kernel
theorem dX12_putRight_49 : decode cX12_putRight 49 = .ok (.isub, 1) := by decide +kernel
theorem dX12_putRight_50 : decode cX12_putRight 50 = .ok (.iastore, 1) := by decide +kernel
theorem dX12_putRight_51 : decode cX12_putRight 51 = .ok (.aload_n 0, 1) := by decide +kernel
theorem dX12_putRight_52 : decode cX12_putRight 52 = .ok (.getfield 8, 3) := by decide +kernel
theorem dX12_putRight_55 : decode cX12_putRight 55 = .ok (.iload_n 1, 1) := by decide +kernel
theorem dX12_putRight_56 : decode cX12_putRight 56 = .ok (.bipush 15, 2) := by decide +kernel
theorem dX12_putRight_58 : decode cX12_putRight 58 = .ok (.iadd, 1) := by decide +kernel
theorem dX12_putRight_59 : decode cX12_putRight 59 = .ok (.iload 4, 2) := by decide +kernel
theorem dX12_putRight_61 : decode cX12_putRight 61 = .ok (.iadd, 1) := by decide +kernel
theorem dX12_putRight_62 : decode cX12_putRight 62 = .ok (.dup2, 1) := by decide +kernel
theorem dX12_putRight_63 : decode cX12_putRight 63 = .ok (.iaload, 1) := by decide +kernel
theorem dX12_putRight_64 : decode cX12_putRight 64 = .ok (.iconst 1, 1) := by decide +kernel
theorem dX12_putRight_65 : decode cX12_putRight 65 = .ok (.iadd, 1) := by decide +kernel
theorem dX12_putRight_66 : decode cX12_putRight 66 = .ok (.iastore, 1) := by decide +kernel
theorem dX12_putRight_67 : decode cX12_putRight 67 = .ok (.aload_n 0, 1) := by decide +kernel
theorem dX12_putRight_68 : decode cX12_putRight 68 = .ok (.getfield 8, 3) := by decide +kernel
theorem dX12_putRight_71 : decode cX12_putRight 71 = .ok (.iload_n 1, 1) := by decide +kernel
theorem dX12_putRight_72 : decode cX12_putRight 72 = .ok (.bipush 17, 2) := by decide +kernel
theorem dX12_putRight_74 : decode cX12_putRight 74 = .ok (.iadd, 1) := by decide +kernel
theorem dX12_putRight_75 : decode cX12_putRight 75 = .ok (.iload_n 3, 1) := by decide +kernel
theorem dX12_putRight_76 : decode cX12_putRight 76 = .ok (.iadd, 1) := by decide +kernel
theorem dX12_putRight_77 : decode cX12_putRight 77 = .ok (.dup2, 1) := by decide +kernel
theorem dX12_putRight_78 : decode cX12_putRight 78 = .ok (.iaload, 1) := by decide +kernel
theorem dX12_putRight_79 : decode cX12_putRight 79 = .ok (.aload_n 0, 1) := by decide +kernel
theorem dX12_putRight_80 : decode cX12_putRight 80 = .ok (.getfield 8, 3) := by decide +kernel
theorem dX12_putRight_83 : decode cX12_putRight 83 = .ok (.iload_n 1, 1) := by decide +kernel
theorem dX12_putRight_84 : decode cX12_putRight 84 = .ok (.sipush 590, 3) := by decide +kernel
theorem dX12_putRight_87 : decode cX12_putRight 87 = .ok (.iadd, 1) := by decide +kernel
theorem dX12_putRight_88 : decode cX12_putRight 88 = .ok (.iload_n 2, 1) := by decide +kernel
theorem dX12_putRight_89 : decode cX12_putRight 89 = .ok (.iadd, 1) := by decide +kernel
theorem dX12_putRight_90 : decode cX12_putRight 90 = .ok (.iaload, 1) := by decide +kernel
theorem dX12_putRight_91 : decode cX12_putRight 91 = .ok (.isub, 1) := by decide +kernel
theorem dX12_putRight_92 : decode cX12_putRight 92 = .ok (.iastore, 1) := by decide +kernel
theorem dX12_putRight_93 : decode cX12_putRight 93 = .ok (.aload_n 0, 1) := by decide +kernel
theorem dX12_putRight_94 : decode cX12_putRight 94 = .ok (.getfield 8, 3) := by decide +kernel
theorem dX12_putRight_97 : decode cX12_putRight 97 = .ok (.iload_n 1, 1) := by decide +kernel
theorem dX12_putRight_98 : decode cX12_putRight 98 = .ok (.bipush 17, 2) := by decide +kernel
theorem dX12_putRight_100 : decode cX12_putRight 100 = .ok (.iadd, 1) := by decide +kernel
theorem dX12_putRight_101 : decode cX12_putRight 101 = .ok (.iload 4, 2) := by decide +kernel
theorem dX12_putRight_103 : decode cX12_putRight 103 = .ok (.iadd, 1) := by decide +kernel
theorem dX12_putRight_104 : decode cX12_putRight 104 = .ok (.dup2, 1) := by decide +kernel
theorem dX12_putRight_105 : decode cX12_putRight 105 = .ok (.iaload, 1) := by decide +kernel
theorem dX12_putRight_106 : decode cX12_putRight 106 = .ok (.aload_n 0, 1) := by decide +kernel
theorem dX12_putRight_107 : decode cX12_putRight 107 = .ok (.getfield 8, 3) := by decide +kernel
theorem dX12_putRight_110 : decode cX12_putRight 110 = .ok (.iload_n 1, 1) := by decide +kernel
theorem dX12_putRight_111 : decode cX12_putRight 111 = .ok (.sipush 590, 3) := by decide +kernel
theorem dX12_putRight_114 : decode cX12_putRight 114 = .ok (.iadd, 1) := by decide +kernel
theorem dX12_putRight_115 : decode cX12_putRight 115 = .ok (.iload_n 2, 1) := by decide +kernel
theorem dX12_putRight_116 : decode cX12_putRight 116 = .ok (.iadd, 1) := by decide +kernel
theorem dX12_putRight_117 : decode cX12_putRight 117 = .ok (.iaload, 1) := by decide +kernel
theorem dX12_putRight_118 : decode cX12_putRight 118 = .ok (.iadd, 1) := by decide +kernel
theorem dX12_putRight_119 : decode cX12_putRight 119 = .ok (.iastore, 1) := by decide +kernel
theorem dX12_putRight_120 : decode cX12_putRight 120 = .ok (.iconst 0, 1) := by decide +kernel
theorem dX12_putRight_121 : decode cX12_putRight 121 = .ok (.istore 5, 2) := by decide +kernel
theorem dX12_putRight_123 : decode cX12_putRight 123 = .ok (.iload 5, 2) := by decide +kernel
theorem dX12_putRight_125 : decode cX12_putRight 125 = .ok (.aload_n 0, 1) := by decide +kernel
theorem dX12_putRight_126 : decode cX12_putRight 126 = .ok (.getfield 8, 3) := by decide +kernel
theorem dX12_putRight_129 : decode cX12_putRight 129 = .ok (.iload_n 1, 1) := by decide +kernel
theorem dX12_putRight_130 : decode cX12_putRight 130 = .ok (.iconst 1, 1) := by decide +kernel
theorem dX12_putRight_131 : decode cX12_putRight 131 = .ok (.iadd, 1) := by decide +kernel
theorem dX12_putRight_132 : decode cX12_putRight 132 = .ok (.iaload, 1) := by decide +kernel
theorem dX12_putRight_133 : decode cX12_putRight 133 = .ok (.if_icmp .ge 43, 3) := by decide +kernel
theorem dX12_putRight_136 : decode cX12_putRight 136 = .ok (.aload_n 0, 1) := by decide +kernel
theorem dX12_putRight_137 : decode cX12_putRight 137 = .ok (.getfield 8, 3) := by decide +kernel
theorem dX12_putRight_140 : decode cX12_putRight 140 = .ok (.iload_n 1, 1) := by decide +kernel
theorem dX12_putRight_141 : decode cX12_putRight 141 = .ok (.sipush 470, 3) := by decide +kernel
theorem dX12_putRight_144 : decode cX12_putRight 144 = .ok (.iadd, 1) := by decide +kernel
theorem dX12_putRight_145 : decode cX12_putRight 145 = .ok (.iload 5, 2) := by decide +kernel
theorem dX12_putRight_147 : decode cX12_putRight 147 = .ok (.iadd, 1) := by decide +kernel
theorem dX12_putRight_148 : decode cX12_putRight 148 = .ok (.iaload, 1) := by decide +kernel
theorem dX12_putRight_149 : decode cX12_putRight 149 = .ok (.iload_n 2, 1) := by decide +kernel
theorem dX12_putRight_150 : decode cX12_putRight 150 = .ok (.if_icmp .ne 20, 3) := by decide +kernel
theorem dX12_putRight_153 : decode cX12_putRight 153 = .ok (.aload_n 0, 1) := by decide +kernel
theorem dX12_putRight_154 : decode cX12_putRight 154 = .ok (.getfield 8, 3) := by decide +kernel
theorem dX12_putRight_157 : decode cX12_putRight 157 = .ok (.iload_n 1, 1) := by decide +kernel
theorem dX12_putRight_158 : decode cX12_putRight 158 = .ok (.bipush 110, 2) := by decide +kernel
theorem dX12_putRight_160 : decode cX12_putRight 160 = .ok (.iadd, 1) := by decide +kernel
theorem dX12_putRight_161 : decode cX12_putRight 161 = .ok (.iload 5, 2) := by decide +kernel
theorem dX12_putRight_163 : decode cX12_putRight 163 = .ok (.iadd, 1) := by decide +kernel
theorem dX12_putRight_164 : decode cX12_putRight 164 = .ok (.bipush 6, 2) := by decide +kernel
theorem dX12_putRight_166 : decode cX12_putRight 166 = .ok (.iload 4, 2) := by decide +kernel
theorem dX12_putRight_168 : decode cX12_putRight 168 = .ok (.iadd, 1) := by decide +kernel
theorem dX12_putRight_169 : decode cX12_putRight 169 = .ok (.iastore, 1) := by decide +kernel
theorem dX12_putRight_170 : decode cX12_putRight 170 = .ok (.iinc 5 1, 3) := by decide +kernel
theorem dX12_putRight_173 : decode cX12_putRight 173 = .ok (.goto (-50), 3) := by decide +kernel
theorem dX12_putRight_176 : decode cX12_putRight 176 = .ok (.return_, 1) := by decide +kernel
theorem dX12_doLay_0 : decode cX12_doLay 0 = .ok (.aload_n 0, 1) := by decide +kernel
theorem dX12_doLay_1 : decode cX12_doLay 1 = .ok (.getfield 8, 3) := by decide +kernel
theorem dX12_doLay_4 : decode cX12_doLay 4 = .ok (.iload_n 1, 1) := by decide +kernel
theorem dX12_doLay_5 : decode cX12_doLay 5 = .ok (.sipush 230, 3) := by decide +kernel
theorem dX12_doLay_8 : decode cX12_doLay 8 = .ok (.iadd, 1) := by decide +kernel
theorem dX12_doLay_9 : decode cX12_doLay 9 = .ok (.bipush 60, 2) := by decide +kernel
theorem dX12_doLay_11 : decode cX12_doLay 11 = .ok (.iload_n 3, 1) := by decide +kernel
theorem dX12_doLay_12 : decode cX12_doLay 12 = .ok (.imul, 1) := by decide +kernel
theorem dX12_doLay_13 : decode cX12_doLay 13 = .ok (.iadd, 1) := by decide +kernel
theorem dX12_doLay_14 : decode cX12_doLay 14 = .ok (.iload 4, 2) := by decide +kernel
theorem dX12_doLay_16 : decode cX12_doLay 16 = .ok (.iadd, 1) := by decide +kernel
theorem dX12_doLay_17 : decode cX12_doLay 17 = .ok (.iaload, 1) := by decide +kernel
theorem dX12_doLay_18 : decode cX12_doLay 18 = .ok (.istore 5, 2) := by decide +kernel
theorem dX12_doLay_20 : decode cX12_doLay 20 = .ok (.aload_n 0, 1) := by decide +kernel
theorem dX12_doLay_21 : decode cX12_doLay 21 = .ok (.getfield 8, 3) := by decide +kernel
theorem dX12_doLay_24 : decode cX12_doLay 24 = .ok (.iload_n 1, 1) := by decide +kernel
theorem dX12_doLay_25 : decode cX12_doLay 25 = .ok (.bipush 22, 2) := by decide +kernel
theorem dX12_doLay_27 : decode cX12_doLay 27 = .ok (.iadd, 1) := by decide +kernel
theorem dX12_doLay_28 : decode cX12_doLay 28 = .ok (.iload_n 3, 1) := by decide +kernel
theorem dX12_doLay_29 : decode cX12_doLay 29 = .ok (.iadd, 1) := by decide +kernel
theorem dX12_doLay_30 : decode cX12_doLay 30 = .ok (.dup2, 1) := by decide +kernel
theorem dX12_doLay_31 : decode cX12_doLay 31 = .ok (.iaload, 1) := by decide +kernel
theorem dX12_doLay_32 : decode cX12_doLay 32 = .ok (.iconst 1, 1) := by decide +kernel
theorem dX12_doLay_33 : decode cX12_doLay 33 = .ok (.isub, 1) := by decide +kernel
theorem dX12_doLay_34 : decode cX12_doLay 34 = .ok (.iastore, 1) := by decide +kernel
theorem dX12_doLay_35 : decode cX12_doLay 35 = .ok (.iload 4, 2) := by decide +kernel
theorem dX12_doLay_37 : decode cX12_doLay 37 = .ok (.istore 6, 2) := by decide +kernel
theorem dX12_doLay_39 : decode cX12_doLay 39 = .ok (.iload 6, 2) := by decide +kernel
theorem dX12_doLay_41 : decode cX12_doLay 41 = .ok (.aload_n 0, 1) := by decide +kernel
theorem dX12_doLay_42 : decode cX12_doLay 42 = .ok (.getfield 8, 3) := by decide +kernel
theorem dX12_doLay_45 : decode cX12_doLay 45 = .ok (.iload_n 1, 1) := by decide +kernel
theorem dX12_doLay_46 : decode cX12_doLay 46 = .ok (.bipush 22, 2) := by decide +kernel
theorem dX12_doLay_48 : decode cX12_doLay 48 = .ok (.iadd, 1) := by decide +kernel
theorem dX12_doLay_49 : decode cX12_doLay 49 = .ok (.iload_n 3, 1) := by decide +kernel
theorem dX12_doLay_50 : decode cX12_doLay 50 = .ok (.iadd, 1) := by decide +kernel
theorem dX12_doLay_51 : decode cX12_doLay 51 = .ok (.iaload, 1) := by decide +kernel
theorem dX12_doLay_52 : decode cX12_doLay 52 = .ok (.if_icmp .ge 47, 3) := by decide +kernel
theorem dX12_doLay_55 : decode cX12_doLay 55 = .ok (.aload_n 0, 1) := by decide +kernel
theorem dX12_doLay_56 : decode cX12_doLay 56 = .ok (.getfield 8, 3) := by decide +kernel
theorem dX12_doLay_59 : decode cX12_doLay 59 = .ok (.iload_n 1, 1) := by decide +kernel
theorem dX12_doLay_60 : decode cX12_doLay 60 = .ok (.sipush 230, 3) := by decide +kernel
theorem dX12_doLay_63 : decode cX12_doLay 63 = .ok (.iadd, 1) := by decide +kernel
theorem dX12_doLay_64 : decode cX12_doLay 64 = .ok (.bipush 60, 2) := by decide +kernel
theorem dX12_doLay_66 : decode cX12_doLay 66 = .ok (.iload_n 3, 1) := by decide +kernel
theorem dX12_doLay_67 : decode cX12_doLay 67 = .ok (.imul, 1) := by decide +kernel
theorem dX12_doLay_68 : decode cX12_doLay 68 = .ok (.iadd, 1) := by decide +kernel
theorem dX12_doLay_69 : decode cX12_doLay 69 = .ok (.iload 6, 2) := by decide +kernel
theorem dX12_doLay_71 : decode cX12_doLay 71 = .ok (.iadd, 1) := by decide +kernel
theorem dX12_doLay_72 : decode cX12_doLay 72 = .ok (.aload_n 0, 1) := by decide +kernel
theorem dX12_doLay_73 : decode cX12_doLay 73 = .ok (.getfield 8, 3) := by decide +kernel
theorem dX12_doLay_76 : decode cX12_doLay 76 = .ok (.iload_n 1, 1) := by decide +kernel
theorem dX12_doLay_77 : decode cX12_doLay 77 = .ok (.sipush 230, 3) := by decide +kernel
theorem dX12_doLay_80 : decode cX12_doLay 80 = .ok (.iadd, 1) := by decide +kernel
theorem dX12_doLay_81 : decode cX12_doLay 81 = .ok (.bipush 60, 2) := by decide +kernel
theorem dX12_doLay_83 : decode cX12_doLay 83 = .ok (.iload_n 3, 1) := by decide +kernel
theorem dX12_doLay_84 : decode cX12_doLay 84 = .ok (.imul, 1) := by decide +kernel
theorem dX12_doLay_85 : decode cX12_doLay 85 = .ok (.iadd, 1) := by decide +kernel
theorem dX12_doLay_86 : decode cX12_doLay 86 = .ok (.iload 6, 2) := by decide +kernel
theorem dX12_doLay_88 : decode cX12_doLay 88 = .ok (.iadd, 1) := by decide +kernel
theorem dX12_doLay_89 : decode cX12_doLay 89 = .ok (.iconst 1, 1) := by decide +kernel
theorem dX12_doLay_90 : decode cX12_doLay 90 = .ok (.iadd, 1) := by decide +kernel
theorem dX12_doLay_91 : decode cX12_doLay 91 = .ok (.iaload, 1) := by decide +kernel
theorem dX12_doLay_92 : decode cX12_doLay 92 = .ok (.iastore, 1) := by decide +kernel
theorem dX12_doLay_93 : decode cX12_doLay 93 = .ok (.iinc 6 1, 3) := by decide +kernel
theorem dX12_doLay_96 : decode cX12_doLay 96 = .ok (.goto (-57), 3) := by decide +kernel
theorem dX12_doLay_99 : decode cX12_doLay 99 = .ok (.aload_n 0, 1) := by decide +kernel
theorem dX12_doLay_100 : decode cX12_doLay 100 = .ok (.getfield 198, 3) := by decide +kernel
theorem dX12_doLay_103 : decode cX12_doLay 103 = .ok (.iconst 1, 1) := by decide +kernel
theorem dX12_doLay_104 : decode cX12_doLay 104 = .ok (.if_icmp .ne 104, 3) := by decide +kernel
theorem dX12_doLay_107 : decode cX12_doLay 107 = .ok (.aload_n 0, 1) := by decide +kernel
theorem dX12_doLay_108 : decode cX12_doLay 108 = .ok (.getfield 8, 3) := by decide +kernel
theorem dX12_doLay_111 : decode cX12_doLay 111 = .ok (.iload_n 1, 1) := by decide +kernel
theorem dX12_doLay_112 : decode cX12_doLay 112 = .ok (.bipush 43, 2) := by decide +kernel
theorem dX12_doLay_114 : decode cX12_doLay 114 = .ok (.iadd, 1) := by decide +kernel
theorem dX12_doLay_115 : decode cX12_doLay 115 = .ok (.iaload, 1) := by decide +kernel
theorem dX12_doLay_116 : decode cX12_doLay 116 = .ok (.istore 6, 2) := by decide +kernel
theorem dX12_doLay_118 : decode cX12_doLay 118 = .ok (.aload_n 0, 1) := by decide +kernel
theorem dX12_doLay_119 : decode cX12_doLay 119 = .ok (.getfield 8, 3) := by decide +kernel
theorem dX12_doLay_122 : decode cX12_doLay 122 = .ok (.iload_n 1, 1) := by decide +kernel
theorem dX12_doLay_123 : decode cX12_doLay 123 = .ok (.sipush 650, 3) := by decide +kernel
theorem dX12_doLay_126 : decode cX12_doLay 126 = .ok (.iadd, 1) := by decide +kernel
theorem dX12_doLay_127 : decode cX12_doLay 127 = .ok (.iload 6, 2) := by decide +kernel
theorem dX12_doLay_129 : decode cX12_doLay 129 = .ok (.iadd, 1) := by decide +kernel
theorem dX12_doLay_130 : decode cX12_doLay 130 = .ok (.iload_n 3, 1) := by decide +kernel
theorem dX12_doLay_131 : decode cX12_doLay 131 = .ok (.iastore, 1) := by decide +kernel
theorem dX12_doLay_132 : decode cX12_doLay 132 = .ok (.aload_n 0, 1) := by decide +kernel
theorem dX12_doLay_133 : decode cX12_doLay 133 = .ok (.getfield 8, 3) := by decide +kernel
theorem dX12_doLay_136 : decode cX12_doLay 136 = .ok (.iload_n 1, 1) := by decide +kernel
theorem dX12_doLay_137 : decode cX12_doLay 137 = .ok (.sipush 710, 3) := by decide +kernel
theorem dX12_doLay_140 : decode cX12_doLay 140 = .ok (.iadd, 1) := by decide +kernel
theorem dX12_doLay_141 : decode cX12_doLay 141 = .ok (.iload 6, 2) := by decide +kernel
theorem dX12_doLay_143 : decode cX12_doLay 143 = .ok (.iadd, 1) := by decide +kernel
theorem dX12_doLay_144 : decode cX12_doLay 144 = .ok (.aload_n 0, 1) := by decide +kernel
theorem dX12_doLay_145 : decode cX12_doLay 145 = .ok (.iload_n 1, 1) := by decide +kernel
theorem dX12_doLay_146 : decode cX12_doLay 146 = .ok (.aload_n 0, 1) := by decide +kernel
theorem dX12_doLay_147 : decode cX12_doLay 147 = .ok (.getfield 8, 3) := by decide +kernel
theorem dX12_doLay_150 : decode cX12_doLay 150 = .ok (.iload_n 1, 1) := by decide +kernel
theorem dX12_doLay_151 : decode cX12_doLay 151 = .ok (.bipush 27, 2) := by decide +kernel
theorem dX12_doLay_153 : decode cX12_doLay 153 = .ok (.iadd, 1) := by decide +kernel
theorem dX12_doLay_154 : decode cX12_doLay 154 = .ok (.iaload, 1) := by decide +kernel
theorem dX12_doLay_155 : decode cX12_doLay 155 = .ok (.invokevirtual 120, 3) := by decide +kernel
theorem dX12_doLay_158 : decode cX12_doLay 158 = .ok (.iastore, 1) := by decide +kernel
theorem dX12_doLay_159 : decode cX12_doLay 159 = .ok (.aload_n 0, 1) := by decide +kernel
theorem dX12_doLay_160 : decode cX12_doLay 160 = .ok (.getfield 8, 3) := by decide +kernel
theorem dX12_doLay_163 : decode cX12_doLay 163 = .ok (.iload_n 1, 1) := by decide +kernel
theorem dX12_doLay_164 : decode cX12_doLay 164 = .ok (.sipush 770, 3) := by decide +kernel
theorem dX12_doLay_167 : decode cX12_doLay 167 = .ok (.iadd, 1) := by decide +kernel
theorem dX12_doLay_168 : decode cX12_doLay 168 = .ok (.iload 6, 2) := by decide +kernel
theorem dX12_doLay_170 : decode cX12_doLay 170 = .ok (.iadd, 1) := by decide +kernel
theorem dX12_doLay_171 : decode cX12_doLay 171 = .ok (.aload_n 0, 1) := by decide +kernel
theorem dX12_doLay_172 : decode cX12_doLay 172 = .ok (.getfield 8, 3) := by decide +kernel
theorem dX12_doLay_175 : decode cX12_doLay 175 = .ok (.iload_n 1, 1) := by decide +kernel
theorem dX12_doLay_176 : decode cX12_doLay 176 = .ok (.bipush 20, 2) := by decide +kernel
theorem dX12_doLay_178 : decode cX12_doLay 178 = .ok (.iadd, 1) := by decide +kernel
theorem dX12_doLay_179 : decode cX12_doLay 179 = .ok (.iaload, 1) := by decide +kernel
theorem dX12_doLay_180 : decode cX12_doLay 180 = .ok (.iastore, 1) := by decide +kernel
theorem dX12_doLay_181 : decode cX12_doLay 181 = .ok (.aload_n 0, 1) := by decide +kernel
theorem dX12_doLay_182 : decode cX12_doLay 182 = .ok (.getfield 8, 3) := by decide +kernel
theorem dX12_doLay_185 : decode cX12_doLay 185 = .ok (.iload_n 1, 1) := by decide +kernel
theorem dX12_doLay_186 : decode cX12_doLay 186 = .ok (.sipush 830, 3) := by decide +kernel
theorem dX12_doLay_189 : decode cX12_doLay 189 = .ok (.iadd, 1) := by decide +kernel
theorem dX12_doLay_190 : decode cX12_doLay 190 = .ok (.iload 6, 2) := by decide +kernel
theorem dX12_doLay_192 : decode cX12_doLay 192 = .ok (.iadd, 1) := by decide +kernel
theorem dX12_doLay_193 : decode cX12_doLay 193 = .ok (.iconst 0, 1) := by decide +kernel
theorem dX12_doLay_194 : decode cX12_doLay 194 = .ok (.iastore, 1) := by decide +kernel
theorem dX12_doLay_195 : decode cX12_doLay 195 = .ok (.aload_n 0, 1) := by decide +kernel
theorem dX12_doLay_196 : decode cX12_doLay 196 = .ok (.getfield 8, 3) := by decide +kernel
theorem dX12_doLay_199 : decode cX12_doLay 199 = .ok (.iload_n 1, 1) := by decide +kernel
theorem dX12_doLay_200 : decode cX12_doLay 200 = .ok (.bipush 43, 2) := by decide +kernel
theorem dX12_doLay_202 : decode cX12_doLay 202 = .ok (.iadd, 1) := by decide +kernel
theorem dX12_doLay_203 : decode cX12_doLay 203 = .ok (.dup2, 1) := by decide +kernel
theorem dX12_doLay_204 : decode cX12_doLay 204 = .ok (.iaload, 1) := by decide +kernel
theorem dX12_doLay_205 : decode cX12_doLay 205 = .ok (.iconst 1, 1) := by decide +kernel
theorem dX12_doLay_206 : decode cX12_doLay 206 = .ok (.iadd, 1) := by decide +kernel
theorem dX12_doLay_207 : decode cX12_doLay 207 = .ok (.iastore, 1) := by decide +kernel
theorem dX12_doLay_208 : decode cX12_doLay 208 = .ok (.aload_n 0, 1) := by decide +kernel
theorem dX12_doLay_209 : decode cX12_doLay 209 = .ok (.getfield 8, 3) := by decide +kernel
theorem dX12_doLay_212 : decode cX12_doLay 212 = .ok (.iload_n 1, 1) := by decide +kernel
theorem dX12_doLay_213 : decode cX12_doLay 213 = .ok (.bipush 14, 2) := by decide +kernel
theorem dX12_doLay_215 : decode cX12_doLay 215 = .ok (.iadd, 1) := by decide +kernel
theorem dX12_doLay_216 : decode cX12_doLay 216 = .ok (.iconst 1, 1) := by decide +kernel
theorem dX12_doLay_217 : decode cX12_doLay 217 = .ok (.iastore, 1) := by decide +kernel
theorem dX12_doLay_218 : decode cX12_doLay 218 = .ok (.aload_n 0, 1) := by decide +kernel
theorem dX12_doLay_219 : decode cX12_doLay 219 = .ok (.getfield 8, 3) := by decide +kernel
theorem dX12_doLay_222 : decode cX12_doLay 222 = .ok (.iload_n 1, 1) := by decide +kernel
theorem dX12_doLay_223 : decode cX12_doLay 223 = .ok (.bipush 27, 2) := by decide +kernel
theorem dX12_doLay_225 : decode cX12_doLay 225 = .ok (.iadd, 1) := by decide +kernel
theorem dX12_doLay_226 : decode cX12_doLay 226 = .ok (.aload_n 0, 1) := by decide +kernel
theorem dX12_doLay_227 : decode cX12_doLay 227 = .ok (.getfield 8, 3) := by decide +kernel
theorem dX12_doLay_230 : decode cX12_doLay 230 = .ok (.iload_n 1, 1) := by decide +kernel
theorem dX12_doLay_231 : decode cX12_doLay 231 = .ok (.bipush 26, 2) := by decide +kernel
theorem dX12_doLay_233 : decode cX12_doLay 233 = .ok (.iadd, 1) := by decide +kernel
theorem dX12_doLay_234 : decode cX12_doLay 234 = .ok (.iaload, 1) := by decide +kernel
theorem dX12_doLay_235 : decode cX12_doLay 235 = .ok (.iadd, 1) := by decide +kernel
theorem dX12_doLay_236 : decode cX12_doLay 236 = .ok (.iload 5, 2) := by decide +kernel
theorem dX12_doLay_238 : decode cX12_doLay 238 = .ok (.iastore, 1) := by decide +kernel
theorem dX12_doLay_239 : decode cX12_doLay 239 = .ok (.aload_n 0, 1) := by decide +kernel
theorem dX12_doLay_240 : decode cX12_doLay 240 = .ok (.getfield 8, 3) := by decide +kernel
theorem dX12_doLay_243 : decode cX12_doLay 243 = .ok (.iload_n 1, 1) := by decide +kernel
theorem dX12_doLay_244 : decode cX12_doLay 244 = .ok (.bipush 31, 2) := by decide +kernel
theorem dX12_doLay_246 : decode cX12_doLay 246 = .ok (.iadd, 1) := by decide +kernel
theorem dX12_doLay_247 : decode cX12_doLay 247 = .ok (.aload_n 0, 1) := by decide +kernel
theorem dX12_doLay_248 : decode cX12_doLay 248 = .ok (.getfield 8, 3) := by decide +kernel
theorem dX12_doLay_251 : decode cX12_doLay 251 = .ok (.iload_n 1, 1) := by decide +kernel
theorem dX12_doLay_252 : decode cX12_doLay 252 = .ok (.bipush 26, 2) := by decide +kernel
theorem dX12_doLay_254 : decode cX12_doLay 254 = .ok (.iadd, 1) := by decide +kernel
theorem dX12_doLay_255 : decode cX12_doLay 255 = .ok (.iaload, 1) := by decide +kernel
theorem dX12_doLay_256 : decode cX12_doLay 256 = .ok (.iadd, 1) := by decide +kernel
theorem dX12_doLay_257 : decode cX12_doLay 257 = .ok (.iload_n 3, 1) := by decide +kernel
theorem dX12_doLay_258 : decode cX12_doLay 258 = .ok (.iastore, 1) := by decide +kernel
theorem dX12_doLay_259 : decode cX12_doLay 259 = .ok (.aload_n 0, 1) := by decide +kernel
theorem dX12_doLay_260 : decode cX12_doLay 260 = .ok (.getfield 8, 3) := by decide +kernel
theorem dX12_doLay_263 : decode cX12_doLay 263 = .ok (.iload_n 1, 1) := by decide +kernel
theorem dX12_doLay_264 : decode cX12_doLay 264 = .ok (.bipush 26, 2) := by decide +kernel
theorem dX12_doLay_266 : decode cX12_doLay 266 = .ok (.iadd, 1) := by decide +kernel
theorem dX12_doLay_267 : decode cX12_doLay 267 = .ok (.dup2, 1) := by decide +kernel
theorem dX12_doLay_268 : decode cX12_doLay 268 = .ok (.iaload, 1) := by decide +kernel
theorem dX12_doLay_269 : decode cX12_doLay 269 = .ok (.iconst 1, 1) := by decide +kernel
theorem dX12_doLay_270 : decode cX12_doLay 270 = .ok (.iadd, 1) := by decide +kernel
theorem dX12_doLay_271 : decode cX12_doLay 271 = .ok (.iastore, 1) := by decide +kernel
theorem dX12_doLay_272 : decode cX12_doLay 272 = .ok (.aload_n 0, 1) := by decide +kernel
theorem dX12_doLay_273 : decode cX12_doLay 273 = .ok (.getfield 8, 3) := by decide +kernel
theorem dX12_doLay_276 : decode cX12_doLay 276 = .ok (.iload_n 1, 1) := by decide +kernel
theorem dX12_doLay_277 : decode cX12_doLay 277 = .ok (.bipush 110, 2) := by decide +kernel
theorem dX12_doLay_279 : decode cX12_doLay 279 = .ok (.iadd, 1) := by decide +kernel
theorem dX12_doLay_280 : decode cX12_doLay 280 = .ok (.iload 5, 2) := by decide +kernel
theorem dX12_doLay_282 : decode cX12_doLay 282 = .ok (.iadd, 1) := by decide +kernel
theorem dX12_doLay_283 : decode cX12_doLay 283 = .ok (.iconst 5, 1) := by decide +kernel
theorem dX12_doLay_284 : decode cX12_doLay 284 = .ok (.iastore, 1) := by decide +kernel
theorem dX12_doLay_285 : decode cX12_doLay 285 = .ok (.aload_n 0, 1) := by decide +kernel
theorem dX12_doLay_286 : decode cX12_doLay 286 = .ok (.iload_n 1, 1) := by decide +kernel
theorem dX12_doLay_287 : decode cX12_doLay 287 = .ok (.iload_n 3, 1) := by decide +kernel
theorem dX12_doLay_288 : decode cX12_doLay 288 = .ok (.aload_n 0, 1) := by decide +kernel
theorem dX12_doLay_289 : decode cX12_doLay 289 = .ok (.iload_n 1, 1) := by decide +kernel
theorem dX12_doLay_290 : decode cX12_doLay 290 = .ok (.iload 5, 2) := by decide +kernel
theorem dX12_doLay_292 : decode cX12_doLay 292 = .ok (.invokevirtual 120, 3) := by decide +kernel
theorem dX12_doLay_295 : decode cX12_doLay 295 = .ok (.invokevirtual 214, 3) := by decide +kernel
theorem dX12_doLay_298 : decode cX12_doLay 298 = .ok (.aload_n 0, 1) := by decide +kernel
theorem dX12_doLay_299 : decode cX12_doLay 299 = .ok (.getfield 8, 3) := by decide +kernel
theorem dX12_doLay_302 : decode cX12_doLay 302 = .ok (.iload_n 1, 1) := by decide +kernel
theorem dX12_doLay_303 : decode cX12_doLay 303 = .ok (.bipush 9, 2) := by decide +kernel
theorem dX12_doLay_305 : decode cX12_doLay 305 = .ok (.iadd, 1) := by decide +kernel
theorem dX12_doLay_306 : decode cX12_doLay 306 = .ok (.aload_n 0, 1) := by decide +kernel
theorem dX12_doLay_307 : decode cX12_doLay 307 = .ok (.iload_n 1, 1) := by decide +kernel
theorem dX12_doLay_308 : decode cX12_doLay 308 = .ok (.iload_n 3, 1) := by decide +kernel
theorem dX12_doLay_309 : decode cX12_doLay 309 = .ok (.iconst 1, 1) := by decide +kernel
theorem dX12_doLay_310 : decode cX12_doLay 310 = .ok (.iadd, 1) := by decide +kernel
theorem dX12_doLay_311 : decode cX12_doLay 311 = .ok (.iconst 4, 1) := by decide +kernel
theorem dX12_doLay_312 : decode cX12_doLay 312 = .ok (.irem, 1) := by decide +kernel
theorem dX12_doLay_313 : decode cX12_doLay 313 = .ok (.invokevirtual 162, 3) := by decide +kernel
theorem dX12_doLay_316 : decode cX12_doLay 316 = .ok (.iastore, 1) := by decide +kernel
theorem dX12_doLay_317 : decode cX12_doLay 317 = .ok (.aload_n 0, 1) := by decide +kernel
theorem dX12_doLay_318 : decode cX12_doLay 318 = .ok (.getfield 8, 3) := by decide +kernel
theorem dX12_doLay_321 : decode cX12_doLay 321 = .ok (.iload_n 1, 1) := by decide +kernel
theorem dX12_doLay_322 : decode cX12_doLay 322 = .ok (.bipush 9, 2) := by decide +kernel
theorem dX12_doLay_324 : decode cX12_doLay 324 = .ok (.iadd, 1) := by decide +kernel
theorem dX12_doLay_325 : decode cX12_doLay 325 = .ok (.iaload, 1) := by decide +kernel
theorem dX12_doLay_326 : decode cX12_doLay 326 = .ok (.iconst (-1), 1) := by decide +kernel
theorem dX12_doLay_327 : decode cX12_doLay 327 = .ok (.if_icmp .ne 9, 3) := by decide +kernel
theorem dX12_doLay_330 : decode cX12_doLay 330 = .ok (.aload_n 0, 1) := by decide +kernel
theorem dX12_doLay_331 : decode cX12_doLay 331 = .ok (.iload_n 1, 1) := by decide +kernel
theorem dX12_doLay_332 : decode cX12_doLay 332 = .ok (.iload_n 2, 1) := by decide +kernel
theorem dX12_doLay_333 : decode cX12_doLay 333 = .ok (.invokevirtual 217, 3) := by decide +kernel
theorem dX12_doLay_336 : decode cX12_doLay 336 = .ok (.return_, 1) := by decide +kernel
theorem dX12_endTrick_0 : decode cX12_endTrick 0 = .ok (.aload_n 0, 1) := by decide +kernel
theorem dX12_endTrick_1 : decode cX12_endTrick 1 = .ok (.iload_n 1, 1) := by decide +kernel
theorem dX12_endTrick_2 : decode cX12_endTrick 2 = .ok (.iconst 0, 1) := by decide +kernel
theorem dX12_endTrick_3 : decode cX12_endTrick 3 = .ok (.invokevirtual 205, 3) := by decide +kernel
theorem dX12_endTrick_6 : decode cX12_endTrick 6 = .ok (.aload_n 0, 1) := by decide +kernel
theorem dX12_endTrick_7 : decode cX12_endTrick 7 = .ok (.iload_n 1, 1) := by decide +kernel
theorem dX12_endTrick_8 : decode cX12_endTrick 8 = .ok (.invokevirtual 220, 3) := by decide +kernel
theorem dX12_endTrick_11 : decode cX12_endTrick 11 = .ok (.istore_n 3, 1) := by decide +kernel
theorem dX12_endTrick_12 : decode cX12_endTrick 12 = .ok (.aload_n 0, 1) := by decide +kernel
theorem dX12_endTrick_13 : decode cX12_endTrick 13 = .ok (.getfield 8, 3) := by decide +kernel
theorem dX12_endTrick_16 : decode cX12_endTrick 16 = .ok (.iload_n 1, 1) := by decide +kernel
theorem dX12_endTrick_17 : decode cX12_endTrick 17 = .ok (.bipush 31, 2) := by decide +kernel
theorem dX12_endTrick_19 : decode cX12_endTrick 19 = .ok (.iadd, 1) := by decide +kernel
theorem dX12_endTrick_20 : decode cX12_endTrick 20 = .ok (.iload_n 3, 1) := by decide +kernel
theorem dX12_endTrick_21 : decode cX12_endTrick 21 = .ok (.iadd, 1) := by decide +kernel
theorem dX12_endTrick_22 : decode cX12_endTrick 22 = .ok (.iaload, 1) := by decide +kernel
theorem dX12_endTrick_23 : decode cX12_endTrick 23 = .ok (.istore 4, 2) := by decide +kernel
theorem dX12_endTrick_25 : decode cX12_endTrick 25 = .ok (.iload 4, 2) := by decide +kernel
theorem dX12_endTrick_27 : decode cX12_endTrick 27 = .ok (.iconst 2, 1) := by decide +kernel
theorem dX12_endTrick_28 : decode cX12_endTrick 28 = .ok (.irem, 1) := by decide +kernel
theorem dX12_endTrick_29 : decode cX12_endTrick 29 = .ok (.istore 5, 2) := by decide +kernel
theorem dX12_endTrick_31 : decode cX12_endTrick 31 = .ok (.aload_n 0, 1) := by decide +kernel
theorem dX12_endTrick_32 : decode cX12_endTrick 32 = .ok (.iload_n 1, 1) := by decide +kernel
theorem dX12_endTrick_33 : decode cX12_endTrick 33 = .ok (.iload_n 3, 1) := by decide +kernel
theorem dX12_endTrick_34 : decode cX12_endTrick 34 = .ok (.invokevirtual 223, 3) := by decide +kernel
theorem dX12_endTrick_37 : decode cX12_endTrick 37 = .ok (.istore 6, 2) := by decide +kernel
theorem dX12_endTrick_39 : decode cX12_endTrick 39 = .ok (.aload_n 0, 1) := by decide +kernel
theorem dX12_endTrick_40 : decode cX12_endTrick 40 = .ok (.getfield 8, 3) := by decide +kernel
theorem dX12_endTrick_43 : decode cX12_endTrick 43 = .ok (.iload_n 1, 1) := by decide +kernel
theorem dX12_endTrick_44 : decode cX12_endTrick 44 = .ok (.bipush 20, 2) := by decide +kernel
theorem dX12_endTrick_46 : decode cX12_endTrick 46 = .ok (.iadd, 1) := by decide +kernel
theorem dX12_endTrick_47 : decode cX12_endTrick 47 = .ok (.iaload, 1) := by decide +kernel
theorem dX12_endTrick_48 : decode cX12_endTrick 48 = .ok (.istore 7, 2) := by decide +kernel
theorem dX12_endTrick_50 : decode cX12_endTrick 50 = .ok (.aload_n 0, 1) := by decide +kernel
theorem dX12_endTrick_51 : decode cX12_endTrick 51 = .ok (.getfield 8, 3) := by decide +kernel
theorem dX12_endTrick_54 : decode cX12_endTrick 54 = .ok (.iload_n 1, 1) := by decide +kernel
theorem dX12_endTrick_55 : decode cX12_endTrick 55 = .ok (.sipush 530, 3) := by decide +kernel
theorem dX12_endTrick_58 : decode cX12_endTrick 58 = .ok (.iadd, 1) := by decide +kernel
theorem dX12_endTrick_59 : decode cX12_endTrick 59 = .ok (.iload 7, 2) := by decide +kernel
theorem dX12_endTrick_61 : decode cX12_endTrick 61 = .ok (.iadd, 1) := by decide +kernel
theorem dX12_endTrick_62 : decode cX12_endTrick 62 = .ok (.iload 5, 2) := by decide +kernel
theorem dX12_endTrick_64 : decode cX12_endTrick 64 = .ok (.iastore, 1) := by decide +kernel
theorem dX12_endTrick_65 : decode cX12_endTrick 65 = .ok (.aload_n 0, 1) := by decide +kernel
theorem dX12_endTrick_66 : decode cX12_endTrick 66 = .ok (.getfield 8, 3) := by decide +kernel
theorem dX12_endTrick_69 : decode cX12_endTrick 69 = .ok (.iload_n 1, 1) := by decide +kernel
theorem dX12_endTrick_70 : decode cX12_endTrick 70 = .ok (.sipush 590, 3) := by decide +kernel
theorem dX12_endTrick_73 : decode cX12_endTrick 73 = .ok (.iadd, 1) := by decide +kernel
theorem dX12_endTrick_74 : decode cX12_endTrick 74 = .ok (.iload 7, 2) := by decide +kernel
theorem dX12_endTrick_76 : decode cX12_endTrick 76 = .ok (.iadd, 1) := by decide +kernel
theorem dX12_endTrick_77 : decode cX12_endTrick 77 = .ok (.iload 6, 2) := by decide +kernel
theorem dX12_endTrick_79 : decode cX12_endTrick 79 = .ok (.iastore, 1) := by decide +kernel
theorem dX12_endTrick_80 : decode cX12_endTrick 80 = .ok (.aload_n 0, 1) := by decide +kernel
theorem dX12_endTrick_81 : decode cX12_endTrick 81 = .ok (.getfield 8, 3) := by decide +kernel
theorem dX12_endTrick_84 : decode cX12_endTrick 84 = .ok (.iload_n 1, 1) := by decide +kernel
theorem dX12_endTrick_85 : decode cX12_endTrick 85 = .ok (.bipush 15, 2) := by decide +kernel
theorem dX12_endTrick_87 : decode cX12_endTrick 87 = .ok (.iadd, 1) := by decide +kernel
theorem dX12_endTrick_88 : decode cX12_endTrick 88 = .ok (.iload 5, 2) := by decide +kernel
theorem dX12_endTrick_90 : decode cX12_endTrick 90 = .ok (.iadd, 1) := by decide +kernel
theorem dX12_endTrick_91 : decode cX12_endTrick 91 = .ok (.dup2, 1) := by decide +kernel
theorem dX12_endTrick_92 : decode cX12_endTrick 92 = .ok (.iaload, 1) := by decide +kernel
theorem dX12_endTrick_93 : decode cX12_endTrick 93 = .ok (.iconst 1, 1) := by decide +kernel
theorem dX12_endTrick_94 : decode cX12_endTrick 94 = .ok (.iadd, 1) := by decide +kernel
theorem dX12_endTrick_95 : decode cX12_endTrick 95 = .ok (.iastore, 1) := by decide +kernel
theorem dX12_endTrick_96 : decode cX12_endTrick 96 = .ok (.aload_n 0, 1) := by decide +kernel
theorem dX12_endTrick_97 : decode cX12_endTrick 97 = .ok (.getfield 8, 3) := by decide +kernel
theorem dX12_endTrick_100 : decode cX12_endTrick 100 = .ok (.iload_n 1, 1) := by decide +kernel
theorem dX12_endTrick_101 : decode cX12_endTrick 101 = .ok (.bipush 17, 2) := by decide +kernel
theorem dX12_endTrick_103 : decode cX12_endTrick 103 = .ok (.iadd, 1) := by decide +kernel
theorem dX12_endTrick_104 : decode cX12_endTrick 104 = .ok (.iload 5, 2) := by decide +kernel
theorem dX12_endTrick_106 : decode cX12_endTrick 106 = .ok (.iadd, 1) := by decide +kernel
theorem dX12_endTrick_107 : decode cX12_endTrick 107 = .ok (.dup2, 1) := by decide +kernel
theorem dX12_endTrick_108 : decode cX12_endTrick 108 = .ok (.iaload, 1) := by decide +kernel
theorem dX12_endTrick_109 : decode cX12_endTrick 109 = .ok (.iload 6, 2) := by decide +kernel
theorem dX12_endTrick_111 : decode cX12_endTrick 111 = .ok (.iadd, 1) := by decide +kernel
theorem dX12_endTrick_112 : decode cX12_endTrick 112 = .ok (.iastore, 1) := by decide +kernel
theorem dX12_endTrick_113 : decode cX12_endTrick 113 = .ok (.iconst 0, 1) := by decide +kernel
theorem dX12_endTrick_114 : decode cX12_endTrick 114 = .ok (.istore 8, 2) := by decide +kernel
theorem dX12_endTrick_116 : decode cX12_endTrick 116 = .ok (.iload 8, 2) := by decide +kernel
theorem dX12_endTrick_118 : decode cX12_endTrick 118 = .ok (.aload_n 0, 1) := by decide +kernel
theorem dX12_endTrick_119 : decode cX12_endTrick 119 = .ok (.getfield 127, 3) := by decide +kernel
theorem dX12_endTrick_122 : decode cX12_endTrick 122 = .ok (.if_icmp .ge 51, 3) := by decide +kernel
theorem dX12_endTrick_125 : decode cX12_endTrick 125 = .ok (.aload_n 0, 1) := by decide +kernel
theorem dX12_endTrick_126 : decode cX12_endTrick 126 = .ok (.getfield 8, 3) := by decide +kernel
theorem dX12_endTrick_129 : decode cX12_endTrick 129 = .ok (.iload_n 1, 1) := by decide +kernel
theorem dX12_endTrick_130 : decode cX12_endTrick 130 = .ok (.bipush 110, 2) := by decide +kernel
theorem dX12_endTrick_132 : decode cX12_endTrick 132 = .ok (.iadd, 1) := by decide +kernel
theorem dX12_endTrick_133 : decode cX12_endTrick 133 = .ok (.aload_n 0, 1) := by decide +kernel
theorem dX12_endTrick_134 : decode cX12_endTrick 134 = .ok (.getfield 39, 3) := by decide +kernel
theorem dX12_endTrick_137 : decode cX12_endTrick 137 = .ok (.iload 8, 2) := by decide +kernel
theorem dX12_endTrick_139 : decode cX12_endTrick 139 = .ok (.iaload, 1) := by decide +kernel
theorem dX12_endTrick_140 : decode cX12_endTrick 140 = .ok (.iadd, 1) := by decide +kernel
theorem dX12_endTrick_141 : decode cX12_endTrick 141 = .ok (.bipush 6, 2) := by decide +kernel
theorem dX12_endTrick_143 : decode cX12_endTrick 143 = .ok (.iload 5, 2) := by decide +kernel
theorem dX12_endTrick_145 : decode cX12_endTrick 145 = .ok (.iadd, 1) := by decide +kernel
theorem dX12_endTrick_146 : decode cX12_endTrick 146 = .ok (.iastore, 1) := by decide +kernel
theorem dX12_endTrick_147 : decode cX12_endTrick 147 = .ok (.aload_n 0, 1) := by decide +kernel
theorem dX12_endTrick_148 : decode cX12_endTrick 148 = .ok (.getfield 8, 3) := by decide +kernel
theorem dX12_endTrick_151 : decode cX12_endTrick 151 = .ok (.iload_n 1, 1) := by decide +kernel
theorem dX12_endTrick_152 : decode cX12_endTrick 152 = .ok (.sipush 470, 3) := by decide +kernel
theorem dX12_endTrick_155 : decode cX12_endTrick 155 = .ok (.iadd, 1) := by decide +kernel
theorem dX12_endTrick_156 : decode cX12_endTrick 156 = .ok (.aload_n 0, 1) := by decide +kernel
theorem dX12_endTrick_157 : decode cX12_endTrick 157 = .ok (.getfield 39, 3) := by decide +kernel
theorem dX12_endTrick_160 : decode cX12_endTrick 160 = .ok (.iload 8, 2) := by decide +kernel
theorem dX12_endTrick_162 : decode cX12_endTrick 162 = .ok (.iaload, 1) := by decide +kernel
theorem dX12_endTrick_163 : decode cX12_endTrick 163 = .ok (.iadd, 1) := by decide +kernel
theorem dX12_endTrick_164 : decode cX12_endTrick 164 = .ok (.iload 7, 2) := by decide +kernel
theorem dX12_endTrick_166 : decode cX12_endTrick 166 = .ok (.iastore, 1) := by decide +kernel
theorem dX12_endTrick_167 : decode cX12_endTrick 167 = .ok (.iinc 8 1, 3) := by decide +kernel
theorem dX12_endTrick_170 : decode cX12_endTrick 170 = .ok (.goto (-54), 3) := by decide +kernel
theorem dX12_endTrick_173 : decode cX12_endTrick 173 = .ok (.aload_n 0, 1) := by decide +kernel
theorem dX12_endTrick_174 : decode cX12_endTrick 174 = .ok (.getfield 8, 3) := by decide +kernel
theorem dX12_endTrick_177 : decode cX12_endTrick 177 = .ok (.iload_n 1, 1) := by decide +kernel
theorem dX12_endTrick_178 : decode cX12_endTrick 178 = .ok (.bipush 26, 2) := by decide +kernel
theorem dX12_endTrick_180 : decode cX12_endTrick 180 = .ok (.iadd, 1) := by decide +kernel
theorem dX12_endTrick_181 : decode cX12_endTrick 181 = .ok (.iconst 0, 1) := by decide +kernel
theorem dX12_endTrick_182 : decode cX12_endTrick 182 = .ok (.iastore, 1) := by decide +kernel
theorem dX12_endTrick_183 : decode cX12_endTrick 183 = .ok (.aload_n 0, 1) := by decide +kernel
theorem dX12_endTrick_184 : decode cX12_endTrick 184 = .ok (.getfield 8, 3) := by decide +kernel
theorem dX12_endTrick_187 : decode cX12_endTrick 187 = .ok (.iload_n 1, 1) := by decide +kernel
theorem dX12_endTrick_188 : decode cX12_endTrick 188 = .ok (.bipush 20, 2) := by decide +kernel
theorem dX12_endTrick_190 : decode cX12_endTrick 190 = .ok (.iadd, 1) := by decide +kernel
theorem dX12_endTrick_191 : decode cX12_endTrick 191 = .ok (.dup2, 1) := by decide +kernel
theorem dX12_endTrick_192 : decode cX12_endTrick 192 = .ok (.iaload, 1) := by decide +kernel
theorem dX12_endTrick_193 : decode cX12_endTrick 193 = .ok (.iconst 1, 1) := by decide +kernel
theorem dX12_endTrick_194 : decode cX12_endTrick 194 = .ok (.iadd, 1) := by decide +kernel
theorem dX12_endTrick_195 : decode cX12_endTrick 195 = .ok (.iastore, 1) := by decide +kernel
theorem dX12_endTrick_196 : decode cX12_endTrick 196 = .ok (.aload_n 0, 1) := by decide +kernel
theorem dX12_endTrick_197 : decode cX12_endTrick 197 = .ok (.getfield 8, 3) := by decide +kernel
theorem dX12_endTrick_200 : decode cX12_endTrick 200 = .ok (.iload_n 1, 1) := by decide +kernel
theorem dX12_endTrick_201 : decode cX12_endTrick 201 = .ok (.bipush 19, 2) := by decide +kernel
theorem dX12_endTrick_203 : decode cX12_endTrick 203 = .ok (.iadd, 1) := by decide +kernel
theorem dX12_endTrick_204 : decode cX12_endTrick 204 = .ok (.iload 4, 2) := by decide +kernel
theorem dX12_endTrick_206 : decode cX12_endTrick 206 = .ok (.iastore, 1) := by decide +kernel
theorem dX12_endTrick_207 : decode cX12_endTrick 207 = .ok (.aload_n 0, 1) := by decide +kernel
theorem dX12_endTrick_208 : decode cX12_endTrick 208 = .ok (.getfield 8, 3) := by decide +kernel
theorem dX12_endTrick_211 : decode cX12_endTrick 211 = .ok (.iload_n 1, 1) := by decide +kernel
theorem dX12_endTrick_212 : decode cX12_endTrick 212 = .ok (.bipush 9, 2) := by decide +kernel
theorem dX12_endTrick_214 : decode cX12_endTrick 214 = .ok (.iadd, 1) := by decide +kernel
theorem dX12_endTrick_215 : decode cX12_endTrick 215 = .ok (.aload_n 0, 1) := by decide +kernel
theorem dX12_endTrick_216 : decode cX12_endTrick 216 = .ok (.iload_n 1, 1) := by decide +kernel
theorem dX12_endTrick_217 : decode cX12_endTrick 217 = .ok (.iload 4, 2) := by decide +kernel
theorem dX12_endTrick_219 : decode cX12_endTrick 219 = .ok (.invokevirtual 162, 3) := by decide +kernel
theorem dX12_endTrick_222 : decode cX12_endTrick 222 = .ok (.iastore, 1) := by decide +kernel
theorem dX12_endTrick_223 : decode cX12_endTrick 223 = .ok (.aload_n 0, 1) := by decide +kernel
theorem dX12_endTrick_224 : decode cX12_endTrick 224 = .ok (.getfield 8, 3) := by decide +kernel
theorem dX12_endTrick_227 : decode cX12_endTrick 227 = .ok (.iload_n 1, 1) := by decide +kernel
theorem dX12_endTrick_228 : decode cX12_endTrick 228 = .ok (.bipush 9, 2) := by decide +kernel
theorem dX12_endTrick_230 : decode cX12_endTrick 230 = .ok (.iadd, 1) := by decide +kernel
theorem dX12_endTrick_231 : decode cX12_endTrick 231 = .ok (.iaload, 1) := by decide +kernel
theorem dX12_endTrick_232 : decode cX12_endTrick 232 = .ok (.iconst (-1), 1) := by decide +kernel
theorem dX12_endTrick_233 : decode cX12_endTrick 233 = .ok (.if_icmp .ne 9, 3) := by decide +kernel
theorem dX12_endTrick_236 : decode cX12_endTrick 236 = .ok (.aload_n 0, 1) := by decide +kernel
theorem dX12_endTrick_237 : decode cX12_endTrick 237 = .ok (.iload_n 1, 1) := by decide +kernel
theorem dX12_endTrick_238 : decode cX12_endTrick 238 = .ok (.iload_n 2, 1) := by decide +kernel
theorem dX12_endTrick_239 : decode cX12_endTrick 239 = .ok (.invokevirtual 226, 3) := by decide +kernel
theorem dX12_endTrick_242 : decode cX12_endTrick 242 = .ok (.return_, 1) := by decide +kernel
theorem dX12_endDeal_0 : decode cX12_endDeal 0 = .ok (.aload_n 0, 1) := by decide +kernel
theorem dX12_endDeal_1 : decode cX12_endDeal 1 = .ok (.getfield 8, 3) := by decide +kernel
theorem dX12_endDeal_4 : decode cX12_endDeal 4 = .ok (.iload_n 1, 1) := by decide +kernel
theorem dX12_endDeal_5 : decode cX12_endDeal 5 = .ok (.iconst 5, 1) := by decide +kernel
theorem dX12_endDeal_6 : decode cX12_endDeal 6 = .ok (.iadd, 1) := by decide +kernel
theorem dX12_endDeal_7 : decode cX12_endDeal 7 = .ok (.iconst 2, 1) := by decide +kernel
theorem dX12_endDeal_8 : decode cX12_endDeal 8 = .ok (.iastore, 1) := by decide +kernel
theorem dX12_endDeal_9 : decode cX12_endDeal 9 = .ok (.aload_n 0, 1) := by decide +kernel
theorem dX12_endDeal_10 : decode cX12_endDeal 10 = .ok (.getfield 8, 3) := by decide +kernel
theorem dX12_endDeal_13 : decode cX12_endDeal 13 = .ok (.iload_n 1, 1) := by decide +kernel
theorem dX12_endDeal_14 : decode cX12_endDeal 14 = .ok (.bipush 9, 2) := by decide +kernel
theorem dX12_endDeal_16 : decode cX12_endDeal 16 = .ok (.iadd, 1) := by decide +kernel
theorem dX12_endDeal_17 : decode cX12_endDeal 17 = .ok (.iconst (-1), 1) := by decide +kernel
theorem dX12_endDeal_18 : decode cX12_endDeal 18 = .ok (.iastore, 1) := by decide +kernel
theorem dX12_endDeal_19 : decode cX12_endDeal 19 = .ok (.iconst 0, 1) := by decide +kernel
theorem dX12_endDeal_20 : decode cX12_endDeal 20 = .ok (.istore_n 3, 1) := by decide +kernel
theorem dX12_endDeal_21 : decode cX12_endDeal 21 = .ok (.iload_n 3, 1) := by decide +kernel
theorem dX12_endDeal_22 : decode cX12_endDeal 22 = .ok (.iconst 2, 1) := by decide +kernel
theorem dX12_endDeal_23 : decode cX12_endDeal 23 = .ok (.if_icmp .ge 118, 3) := by decide +kernel
theorem dX12_endDeal_26 : decode cX12_endDeal 26 = .ok (.aload_n 0, 1) := by decide +kernel
theorem dX12_endDeal_27 : decode cX12_endDeal 27 = .ok (.iload_n 1, 1) := by decide +kernel
theorem dX12_endDeal_28 : decode cX12_endDeal 28 = .ok (.iload_n 3, 1) := by decide +kernel
theorem dX12_endDeal_29 : decode cX12_endDeal 29 = .ok (.invokevirtual 229, 3) := by decide +kernel
theorem dX12_endDeal_32 : decode cX12_endDeal 32 = .ok (.istore 4, 2) := by decide +kernel
theorem dX12_endDeal_34 : decode cX12_endDeal 34 = .ok (.aload_n 0, 1) := by decide +kernel
theorem dX12_endDeal_35 : decode cX12_endDeal 35 = .ok (.getfield 8, 3) := by decide +kernel
theorem dX12_endDeal_38 : decode cX12_endDeal 38 = .ok (.iload_n 1, 1) := by decide +kernel
theorem dX12_endDeal_39 : decode cX12_endDeal 39 = .ok (.bipush 35, 2) := by decide +kernel
theorem dX12_endDeal_41 : decode cX12_endDeal 41 = .ok (.iadd, 1) := by decide +kernel
theorem dX12_endDeal_42 : decode cX12_endDeal 42 = .ok (.iload_n 3, 1) := by decide +kernel
theorem dX12_endDeal_43 : decode cX12_endDeal 43 = .ok (.iadd, 1) := by decide +kernel
theorem dX12_endDeal_44 : decode cX12_endDeal 44 = .ok (.iaload, 1) := by decide +kernel
theorem dX12_endDeal_45 : decode cX12_endDeal 45 = .ok (.aload_n 0, 1) := by decide +kernel
theorem dX12_endDeal_46 : decode cX12_endDeal 46 = .ok (.getfield 8, 3) := by decide +kernel
theorem dX12_endDeal_49 : decode cX12_endDeal 49 = .ok (.iload_n 1, 1) := by decide +kernel
theorem dX12_endDeal_50 : decode cX12_endDeal 50 = .ok (.bipush 35, 2) := by decide +kernel
theorem dX12_endDeal_52 : decode cX12_endDeal 52 = .ok (.iadd, 1) := by decide +kernel
theorem dX12_endDeal_53 : decode cX12_endDeal 53 = .ok (.iload_n 3, 1) := by decide +kernel
theorem dX12_endDeal_54 : decode cX12_endDeal 54 = .ok (.iadd, 1) := by decide +kernel
theorem dX12_endDeal_55 : decode cX12_endDeal 55 = .ok (.iconst 2, 1) := by decide +kernel
theorem dX12_endDeal_56 : decode cX12_endDeal 56 = .ok (.iadd, 1) := by decide +kernel
theorem dX12_endDeal_57 : decode cX12_endDeal 57 = .ok (.iaload, 1) := by decide +kernel
theorem dX12_endDeal_58 : decode cX12_endDeal 58 = .ok (.iadd, 1) := by decide +kernel
theorem dX12_endDeal_59 : decode cX12_endDeal 59 = .ok (.istore 5, 2) := by decide +kernel
theorem dX12_endDeal_61 : decode cX12_endDeal 61 = .ok (.iload 5, 2) := by decide +kernel
theorem dX12_endDeal_63 : decode cX12_endDeal 63 = .ok (.ifCond .ne 12, 3) := by decide +kernel
theorem dX12_endDeal_66 : decode cX12_endDeal 66 = .ok (.aload_n 0, 1) := by decide +kernel
theorem dX12_endDeal_67 : decode cX12_endDeal 67 = .ok (.bipush 7, 2) := by decide +kernel
theorem dX12_endDeal_69 : decode cX12_endDeal 69 = .ok (.iload_n 2, 1) := by decide +kernel
theorem dX12_endDeal_70 : decode cX12_endDeal 70 = .ok (.iload_n 3, 1) := by decide +kernel
theorem dX12_endDeal_71 : decode cX12_endDeal 71 = .ok (.iconst 0, 1) := by decide +kernel
theorem dX12_endDeal_72 : decode cX12_endDeal 72 = .ok (.invokevirtual 232, 3) := by decide +kernel
theorem dX12_endDeal_75 : decode cX12_endDeal 75 = .ok (.iload_n 3, 1) := by decide +kernel
theorem dX12_endDeal_76 : decode cX12_endDeal 76 = .ok (.istore 6, 2) := by decide +kernel
theorem dX12_endDeal_78 : decode cX12_endDeal 78 = .ok (.iload 6, 2) := by decide +kernel
theorem dX12_endDeal_80 : decode cX12_endDeal 80 = .ok (.iconst 4, 1) := by decide +kernel
theorem dX12_endDeal_81 : decode cX12_endDeal 81 = .ok (.if_icmp .ge 54, 3) := by decide +kernel
theorem dX12_endDeal_84 : decode cX12_endDeal 84 = .ok (.iload 5, 2) := by decide +kernel
theorem dX12_endDeal_86 : decode cX12_endDeal 86 = .ok (.ifCond .le 49, 3) := by decide +kernel
theorem dX12_endDeal_89 : decode cX12_endDeal 89 = .ok (.aload_n 0, 1) := by decide +kernel
theorem dX12_endDeal_90 : decode cX12_endDeal 90 = .ok (.getfield 8, 3) := by decide +kernel
theorem dX12_endDeal_93 : decode cX12_endDeal 93 = .ok (.iload_n 1, 1) := by decide +kernel
theorem dX12_endDeal_94 : decode cX12_endDeal 94 = .ok (.bipush 39, 2) := by decide +kernel
theorem dX12_endDeal_96 : decode cX12_endDeal 96 = .ok (.iadd, 1) := by decide +kernel
theorem dX12_endDeal_97 : decode cX12_endDeal 97 = .ok (.iload 6, 2) := by decide +kernel
theorem dX12_endDeal_99 : decode cX12_endDeal 99 = .ok (.iadd, 1) := by decide +kernel
theorem dX12_endDeal_100 : decode cX12_endDeal 100 = .ok (.dup2, 1) := by decide +kernel
theorem dX12_endDeal_101 : decode cX12_endDeal 101 = .ok (.iaload, 1) := by decide +kernel
theorem dX12_endDeal_102 : decode cX12_endDeal 102 = .ok (.aload_n 0, 1) := by decide +kernel
theorem dX12_endDeal_103 : decode cX12_endDeal 103 = .ok (.getfield 8, 3) := by decide +kernel
theorem dX12_endDeal_106 : decode cX12_endDeal 106 = .ok (.iload_n 1, 1) := by decide +kernel
theorem dX12_endDeal_107 : decode cX12_endDeal 107 = .ok (.bipush 35, 2) := by decide +kernel
theorem dX12_endDeal_109 : decode cX12_endDeal 109 = .ok (.iadd, 1) := by decide +kernel
theorem dX12_endDeal_110 : decode cX12_endDeal 110 = .ok (.iload 6, 2) := by decide +kernel
theorem dX12_endDeal_112 : decode cX12_endDeal 112 = .ok (.iadd, 1) := by decide +kernel
theorem dX12_endDeal_113 : decode cX12_endDeal 113 = .ok (.iaload, 1) := by decide +kernel
theorem dX12_endDeal_114 : decode cX12_endDeal 114 = .ok (.iconst 1, 1) := by decide +kernel
theorem dX12_endDeal_115 : decode cX12_endDeal 115 = .ok (.if_icmp .ne 11, 3) := by decide +kernel
theorem dX12_endDeal_118 : decode cX12_endDeal 118 = .ok (.iload 4, 2) := by decide +kernel
theorem dX12_endDeal_120 : decode cX12_endDeal 120 = .ok (.iload 5, 2) := by decide +kernel
theorem dX12_endDeal_122 : decode cX12_endDeal 122 = .ok (.idiv, 1) := by decide +kernel
theorem dX12_endDeal_123 : decode cX12_endDeal 123 = .ok (.goto 4, 3) := by decide +kernel
theorem dX12_endDeal_126 : decode cX12_endDeal 126 = .ok (.iconst 0, 1) := by decide +kernel
theorem dX12_endDeal_127 : decode cX12_endDeal 127 = .ok (.iadd, 1) := by decide +kernel
theorem dX12_endDeal_128 : decode cX12_endDeal 128 = .ok (.iastore, 1) := by decide +kernel
theorem dX12_endDeal_129 : decode cX12_endDeal 129 = .ok (.iinc 6 2, 3) := by decide +kernel
theorem dX12_endDeal_132 : decode cX12_endDeal 132 = .ok (.goto (-54), 3) := by decide +kernel
theorem dX12_endDeal_135 : decode cX12_endDeal 135 = .ok (.iinc 3 1, 3) := by decide +kernel
theorem dX12_endDeal_138 : decode cX12_endDeal 138 = .ok (.goto (-117), 3) := by decide +kernel
theorem dX12_endDeal_141 : decode cX12_endDeal 141 = .ok (.return_, 1) := by decide +kernel
theorem dX12_play_0 : decode cX12_play 0 = .ok (.aload_n 0, 1) := by decide +kernel
theorem dX12_play_1 : decode cX12_play 1 = .ok (.iload_n 1, 1) := by decide +kernel
theorem dX12_play_2 : decode cX12_play 2 = .ok (.invokevirtual 107, 3) := by decide +kernel
theorem dX12_play_5 : decode cX12_play 5 = .ok (.ifCond .eq 10, 3) := by decide +kernel
theorem dX12_play_8 : decode cX12_play 8 = .ok (.iload_n 2, 1) := by decide +kernel
theorem dX12_play_9 : decode cX12_play 9 = .ok (.invokestatic 110, 3) := by decide +kernel
theorem dX12_play_12 : decode cX12_play 12 = .ok (.ifCond .ne 6, 3) := by decide +kernel
theorem dX12_play_15 : decode cX12_play 15 = .ok (.bipush (-2), 2) := by decide +kernel
theorem dX12_play_17 : decode cX12_play 17 = .ok (.ireturn, 1) := by decide +kernel
theorem dX12_play_18 : decode cX12_play 18 = .ok (.sipush 1290, 3) := by decide +kernel
theorem dX12_play_21 : decode cX12_play 21 = .ok (.iload_n 1, 1) := by decide +kernel
theorem dX12_play_22 : decode cX12_play 22 = .ok (.imul, 1) := by decide +kernel
theorem dX12_play_23 : decode cX12_play 23 = .ok (.istore 5, 2) := by decide +kernel
theorem dX12_play_25 : decode cX12_play 25 = .ok (.aload_n 0, 1) := by decide +kernel
theorem dX12_play_26 : decode cX12_play 26 = .ok (.getfield 8, 3) := by decide +kernel
theorem dX12_play_29 : decode cX12_play 29 = .ok (.iload 5, 2) := by decide +kernel
theorem dX12_play_31 : decode cX12_play 31 = .ok (.iconst 5, 1) := by decide +kernel
theorem dX12_play_32 : decode cX12_play 32 = .ok (.iadd, 1) := by decide +kernel
theorem dX12_play_33 : decode cX12_play 33 = .ok (.iaload, 1) := by decide +kernel
theorem dX12_play_34 : decode cX12_play 34 = .ok (.iconst 1, 1) := by decide +kernel
theorem dX12_play_35 : decode cX12_play 35 = .ok (.if_icmp .eq 6, 3) := by decide +kernel
theorem dX12_play_38 : decode cX12_play 38 = .ok (.bipush (-4), 2) := by decide +kernel
theorem dX12_play_40 : decode cX12_play 40 = .ok (.ireturn, 1) := by decide +kernel
theorem dX12_play_41 : decode cX12_play 41 = .ok (.aload_n 0, 1) := by decide +kernel
theorem dX12_play_42 : decode cX12_play 42 = .ok (.dup, 1) := by decide +kernel
theorem dX12_play_43 : decode cX12_play 43 = .ok (.getfield 88, 3) := by decide +kernel
theorem dX12_play_46 : decode cX12_play 46 = .ok (.iconst 1, 1) := by decide +kernel
theorem dX12_play_47 : decode cX12_play 47 = .ok (.iadd, 1) := by decide +kernel
theorem dX12_play_48 : decode cX12_play 48 = .ok (.putfield 88, 3) := by decide +kernel
theorem dX12_play_51 : decode cX12_play 51 = .ok (.aload_n 0, 1) := by decide +kernel
theorem dX12_play_52 : decode cX12_play 52 = .ok (.iload 5, 2) := by decide +kernel
theorem dX12_play_54 : decode cX12_play 54 = .ok (.iload_n 2, 1) := by decide +kernel
theorem dX12_play_55 : decode cX12_play 55 = .ok (.iload_n 3, 1) := by decide +kernel
theorem dX12_play_56 : decode cX12_play 56 = .ok (.iload 4, 2) := by decide +kernel
theorem dX12_play_58 : decode cX12_play 58 = .ok (.invokevirtual 235, 3) := by decide +kernel
theorem dX12_play_61 : decode cX12_play 61 = .ok (.istore 6, 2) := by decide +kernel
theorem dX12_play_63 : decode cX12_play 63 = .ok (.iload 6, 2) := by decide +kernel
theorem dX12_play_65 : decode cX12_play 65 = .ok (.ifCond .le 21, 3) := by decide +kernel
theorem dX12_play_68 : decode cX12_play 68 = .ok (.aload_n 0, 1) := by decide +kernel
theorem dX12_play_69 : decode cX12_play 69 = .ok (.iload 6, 2) := by decide +kernel
theorem dX12_play_71 : decode cX12_play 71 = .ok (.iload_n 1, 1) := by decide +kernel
theorem dX12_play_72 : decode cX12_play 72 = .ok (.iload_n 2, 1) := by decide +kernel
theorem dX12_play_73 : decode cX12_play 73 = .ok (.aload_n 0, 1) := by decide +kernel
theorem dX12_play_74 : decode cX12_play 74 = .ok (.getfield 198, 3) := by decide +kernel
theorem dX12_play_77 : decode cX12_play 77 = .ok (.invokevirtual 232, 3) := by decide +kernel
theorem dX12_play_80 : decode cX12_play 80 = .ok (.bipush (-10), 2) := by decide +kernel
theorem dX12_play_82 : decode cX12_play 82 = .ok (.iload 6, 2) := by decide +kernel
theorem dX12_play_84 : decode cX12_play 84 = .ok (.isub, 1) := by decide +kernel
theorem dX12_play_85 : decode cX12_play 85 = .ok (.ireturn, 1) := by decide +kernel
theorem dX12_play_86 : decode cX12_play 86 = .ok (.aload_n 0, 1) := by decide +kernel
theorem dX12_play_87 : decode cX12_play 87 = .ok (.iload_n 1, 1) := by decide +kernel
theorem dX12_play_88 : decode cX12_play 88 = .ok (.invokevirtual 165, 3) := by decide +kernel
theorem dX12_play_91 : decode cX12_play 91 = .ok (.aload_n 0, 1) := by decide +kernel
theorem dX12_play_92 : decode cX12_play 92 = .ok (.iload 5, 2) := by decide +kernel
theorem dX12_play_94 : decode cX12_play 94 = .ok (.iload 4, 2) := by decide +kernel
theorem dX12_play_96 : decode cX12_play 96 = .ok (.ifCond .eq 7, 3) := by decide +kernel
theorem dX12_play_99 : decode cX12_play 99 = .ok (.iconst 5, 1) := by decide +kernel
theorem dX12_play_100 : decode cX12_play 100 = .ok (.goto 4, 3) := by decide +kernel
theorem dX12_play_103 : decode cX12_play 103 = .ok (.iconst 4, 1) := by decide +kernel
theorem dX12_play_104 : decode cX12_play 104 = .ok (.iload_n 2, 1) := by decide +kernel
theorem dX12_play_105 : decode cX12_play 105 = .ok (.iload_n 3, 1) := by decide +kernel
theorem dX12_play_106 : decode cX12_play 106 = .ok (.iconst 0, 1) := by decide +kernel
theorem dX12_play_107 : decode cX12_play 107 = .ok (.invokevirtual 171, 3) := by decide +kernel
theorem dX12_play_110 : decode cX12_play 110 = .ok (.aload_n 0, 1) := by decide +kernel
theorem dX12_play_111 : decode cX12_play 111 = .ok (.getfield 36, 3) := by decide +kernel
theorem dX12_play_114 : decode cX12_play 114 = .ok (.iload_n 3, 1) := by decide +kernel
theorem dX12_play_115 : decode cX12_play 115 = .ok (.iaload, 1) := by decide +kernel
theorem dX12_play_116 : decode cX12_play 116 = .ok (.istore 7, 2) := by decide +kernel
theorem dX12_play_118 : decode cX12_play 118 = .ok (.aload_n 0, 1) := by decide +kernel
theorem dX12_play_119 : decode cX12_play 119 = .ok (.iload 5, 2) := by decide +kernel
theorem dX12_play_121 : decode cX12_play 121 = .ok (.iload_n 1, 1) := by decide +kernel
theorem dX12_play_122 : decode cX12_play 122 = .ok (.iload_n 2, 1) := by decide +kernel
theorem dX12_play_123 : decode cX12_play 123 = .ok (.iload_n 3, 1) := by decide +kernel
theorem dX12_play_124 : decode cX12_play 124 = .ok (.invokevirtual 238, 3) := by decide +kernel
theorem dX12_play_127 : decode cX12_play 127 = .ok (.iload 7, 2) := by decide +kernel
theorem dX12_play_129 : decode cX12_play 129 = .ok (.ireturn, 1) := by decide +kernel
theorem dX12_lay_0 : decode cX12_lay 0 = .ok (.aload_n 0, 1) := by decide +kernel
theorem dX12_lay_1 : decode cX12_lay 1 = .ok (.iload_n 1, 1) := by decide +kernel
theorem dX12_lay_2 : decode cX12_lay 2 = .ok (.iload_n 2, 1) := by decide +kernel
theorem dX12_lay_3 : decode cX12_lay 3 = .ok (.iload_n 3, 1) := by decide +kernel
theorem dX12_lay_4 : decode cX12_lay 4 = .ok (.iconst 0, 1) := by decide +kernel
theorem dX12_lay_5 : decode cX12_lay 5 = .ok (.invokevirtual 241, 3) := by decide +kernel
theorem dX12_lay_8 : decode cX12_lay 8 = .ok (.ireturn, 1) := by decide +kernel
theorem dX12_revoke_0 : decode cX12_revoke 0 = .ok (.aload_n 0, 1) := by decide +kernel
theorem dX12_revoke_1 : decode cX12_revoke 1 = .ok (.iload_n 1, 1) := by decide +kernel
theorem dX12_revoke_2 : decode cX12_revoke 2 = .ok (.iload_n 2, 1) := by decide +kernel
theorem dX12_revoke_3 : decode cX12_revoke 3 = .ok (.iload_n 3, 1) := by decide +kernel
theorem dX12_revoke_4 : decode cX12_revoke 4 = .ok (.iconst 1, 1) := by decide +kernel
theorem dX12_revoke_5 : decode cX12_revoke 5 = .ok (.invokevirtual 241, 3) := by decide +kernel
theorem dX12_revoke_8 : decode cX12_revoke 8 = .ok (.ireturn, 1) := by decide +kernel
theorem dX12_allowed_0 : decode cX12_allowed 0 = .ok (.aload_n 0, 1) := by decide +kernel
theorem dX12_allowed_1 : decode cX12_allowed 1 = .ok (.iload_n 1, 1) := by decide +kernel
theorem dX12_allowed_2 : decode cX12_allowed 2 = .ok (.invokevirtual 107, 3) := by decide +kernel
theorem dX12_allowed_5 : decode cX12_allowed 5 = .ok (.ifCond .eq 10, 3) := by decide +kernel
theorem dX12_allowed_8 : decode cX12_allowed 8 = .ok (.iload_n 2, 1) := by decide +kernel
theorem dX12_allowed_9 : decode cX12_allowed 9 = .ok (.invokestatic 110, 3) := by decide +kernel
theorem dX12_allowed_12 : decode cX12_allowed 12 = .ok (.ifCond .ne 6, 3) := by decide +kernel
theorem dX12_allowed_15 : decode cX12_allowed 15 = .ok (.bipush (-2), 2) := by decide +kernel
theorem dX12_allowed_17 : decode cX12_allowed 17 = .ok (.ireturn, 1) := by decide +kernel
theorem dX12_allowed_18 : decode cX12_allowed 18 = .ok (.sipush 1290, 3) := by decide +kernel
theorem dX12_allowed_21 : decode cX12_allowed 21 = .ok (.iload_n 1, 1) := by decide +kernel
theorem dX12_allowed_22 : decode cX12_allowed 22 = .ok (.imul, 1) := by decide +kernel
theorem dX12_allowed_23 : decode cX12_allowed 23 = .ok (.istore 4, 2) := by decide +kernel
theorem dX12_allowed_25 : decode cX12_allowed 25 = .ok (.aload_n 0, 1) := by decide +kernel
theorem dX12_allowed_26 : decode cX12_allowed 26 = .ok (.getfield 8, 3) := by decide +kernel
theorem dX12_allowed_29 : decode cX12_allowed 29 = .ok (.iload 4, 2) := by decide +kernel
theorem dX12_allowed_31 : decode cX12_allowed 31 = .ok (.iconst 5, 1) := by decide +kernel
theorem dX12_allowed_32 : decode cX12_allowed 32 = .ok (.iadd, 1) := by decide +kernel
theorem dX12_allowed_33 : decode cX12_allowed 33 = .ok (.iaload, 1) := by decide +kernel
theorem dX12_allowed_34 : decode cX12_allowed 34 = .ok (.iconst 1, 1) := by decide +kernel
theorem dX12_allowed_35 : decode cX12_allowed 35 = .ok (.if_icmp .eq 6, 3) := by decide +kernel
theorem dX12_allowed_38 : decode cX12_allowed 38 = .ok (.bipush (-4), 2) := by decide +kernel
theorem dX12_allowed_40 : decode cX12_allowed 40 = .ok (.ireturn, 1) := by decide +kernel
theorem dX12_allowed_41 : decode cX12_allowed 41 = .ok (.aload_n 0, 1) := by decide +kernel
theorem dX12_allowed_42 : decode cX12_allowed 42 = .ok (.iload 4, 2) := by decide +kernel
theorem dX12_allowed_44 : decode cX12_allowed 44 = .ok (.iload_n 2, 1) := by decide +kernel
theorem dX12_allowed_45 : decode cX12_allowed 45 = .ok (.iload_n 3, 1) := by decide +kernel
theorem dX12_allowed_46 : decode cX12_allowed 46 = .ok (.iconst 0, 1) := by decide +kernel
theorem dX12_allowed_47 : decode cX12_allowed 47 = .ok (.invokevirtual 201, 3) := by decide +kernel
theorem dX12_allowed_50 : decode cX12_allowed 50 = .ok (.istore 5, 2) := by decide +kernel
theorem dX12_allowed_52 : decode cX12_allowed 52 = .ok (.iload 5, 2) := by decide +kernel
theorem dX12_allowed_54 : decode cX12_allowed 54 = .ok (.ifCond .le 9, 3) := by decide +kernel
theorem dX12_allowed_57 : decode cX12_allowed 57 = .ok (.bipush (-10), 2) := by decide +kernel
theorem dX12_allowed_59 : decode cX12_allowed 59 = .ok (.iload 5, 2) := by decide +kernel
theorem dX12_allowed_61 : decode cX12_allowed 61 = .ok (.isub, 1) := by decide +kernel
theorem dX12_allowed_62 : decode cX12_allowed 62 = .ok (.ireturn, 1) := by decide +kernel
theorem dX12_allowed_63 : decode cX12_allowed 63 = .ok (.aload_n 0, 1) := by decide +kernel
theorem dX12_allowed_64 : decode cX12_allowed 64 = .ok (.iload 4, 2) := by decide +kernel
theorem dX12_allowed_66 : decode cX12_allowed 66 = .ok (.iload_n 2, 1) := by decide +kernel
theorem dX12_allowed_67 : decode cX12_allowed 67 = .ok (.invokevirtual 205, 3) := by decide +kernel
theorem dX12_allowed_70 : decode cX12_allowed 70 = .ok (.aload_n 0, 1) := by decide +kernel
theorem dX12_allowed_71 : decode cX12_allowed 71 = .ok (.iload 4, 2) := by decide +kernel
theorem dX12_allowed_73 : decode cX12_allowed 73 = .ok (.aload_n 0, 1) := by decide +kernel
theorem dX12_allowed_74 : decode cX12_allowed 74 = .ok (.getfield 36, 3) := by decide +kernel
theorem dX12_allowed_77 : decode cX12_allowed 77 = .ok (.iload_n 3, 1) := by decide +kernel
theorem dX12_allowed_78 : decode cX12_allowed 78 = .ok (.iaload, 1) := by decide +kernel
theorem dX12_allowed_79 : decode cX12_allowed 79 = .ok (.invokevirtual 208, 3) := by decide +kernel
theorem dX12_allowed_82 : decode cX12_allowed 82 = .ok (.ireturn, 1) := by decide +kernel
theorem dX12_turn_0 : decode cX12_turn 0 = .ok (.aload_n 0, 1) := by decide +kernel
theorem dX12_turn_1 : decode cX12_turn 1 = .ok (.iload_n 1, 1) := by decide +kernel
theorem dX12_turn_2 : decode cX12_turn 2 = .ok (.invokevirtual 107, 3) := by decide +kernel
theorem dX12_turn_5 : decode cX12_turn 5 = .ok (.ifCond .eq 19, 3) := by decide +kernel
theorem dX12_turn_8 : decode cX12_turn 8 = .ok (.aload_n 0, 1) := by decide +kernel
theorem dX12_turn_9 : decode cX12_turn 9 = .ok (.getfield 8, 3) := by decide +kernel
theorem dX12_turn_12 : decode cX12_turn 12 = .ok (.sipush 1290, 3) := by decide +kernel
theorem dX12_turn_15 : decode cX12_turn 15 = .ok (.iload_n 1, 1) := by decide +kernel
theorem dX12_turn_16 : decode cX12_turn 16 = .ok (.imul, 1) := by decide +kernel
theorem dX12_turn_17 : decode cX12_turn 17 = .ok (.bipush 9, 2) := by decide +kernel
theorem dX12_turn_19 : decode cX12_turn 19 = .ok (.iadd, 1) := by decide +kernel
theorem dX12_turn_20 : decode cX12_turn 20 = .ok (.iaload, 1) := by decide +kernel
theorem dX12_turn_21 : decode cX12_turn 21 = .ok (.goto 5, 3) := by decide +kernel
theorem dX12_turn_24 : decode cX12_turn 24 = .ok (.bipush (-2), 2) := by decide +kernel
theorem dX12_turn_26 : decode cX12_turn 26 = .ok (.ireturn, 1) := by decide +kernel
theorem dX12_trick_0 : decode cX12_trick 0 = .ok (.aload_n 0, 1) := by decide +kernel
theorem dX12_trick_1 : decode cX12_trick 1 = .ok (.iload_n 1, 1) := by decide +kernel
theorem dX12_trick_2 : decode cX12_trick 2 = .ok (.invokevirtual 107, 3) := by decide +kernel
theorem dX12_trick_5 : decode cX12_trick 5 = .ok (.ifCond .ne 6, 3) := by decide +kernel
theorem dX12_trick_8 : decode cX12_trick 8 = .ok (.bipush (-2), 2) := by decide +kernel
theorem dX12_trick_10 : decode cX12_trick 10 = .ok (.ireturn, 1) := by decide +kernel
theorem dX12_trick_11 : decode cX12_trick 11 = .ok (.iload_n 2, 1) := by decide +kernel
theorem dX12_trick_12 : decode cX12_trick 12 = .ok (.iconst 0, 1) := by decide +kernel
theorem dX12_trick_13 : decode cX12_trick 13 = .ok (.aload_n 0, 1) := by decide +kernel
theorem dX12_trick_14 : decode cX12_trick 14 = .ok (.getfield 8, 3) := by decide +kernel
theorem dX12_trick_17 : decode cX12_trick 17 = .ok (.sipush 1290, 3) := by decide +kernel
theorem dX12_trick_20 : decode cX12_trick 20 = .ok (.iload_n 1, 1) := by decide +kernel
theorem dX12_trick_21 : decode cX12_trick 21 = .ok (.imul, 1) := by decide +kernel
theorem dX12_trick_22 : decode cX12_trick 22 = .ok (.bipush 26, 2) := by decide +kernel
theorem dX12_trick_24 : decode cX12_trick 24 = .ok (.iadd, 1) := by decide +kernel
theorem dX12_trick_25 : decode cX12_trick 25 = .ok (.iaload, 1) := by decide +kernel
theorem dX12_trick_26 : decode cX12_trick 26 = .ok (.iconst 1, 1) := by decide +kernel
theorem dX12_trick_27 : decode cX12_trick 27 = .ok (.isub, 1) := by decide +kernel
theorem dX12_trick_28 : decode cX12_trick 28 = .ok (.invokestatic 91, 3) := by decide +kernel
theorem dX12_trick_31 : decode cX12_trick 31 = .ok (.ifCond .eq 21, 3) := by decide +kernel
theorem dX12_trick_34 : decode cX12_trick 34 = .ok (.aload_n 0, 1) := by decide +kernel
theorem dX12_trick_35 : decode cX12_trick 35 = .ok (.getfield 8, 3) := by decide +kernel
theorem dX12_trick_38 : decode cX12_trick 38 = .ok (.sipush 1290, 3) := by decide +kernel
theorem dX12_trick_41 : decode cX12_trick 41 = .ok (.iload_n 1, 1) := by decide +kernel
theorem dX12_trick_42 : decode cX12_trick 42 = .ok (.imul, 1) := by decide +kernel
theorem dX12_trick_43 : decode cX12_trick 43 = .ok (.bipush 27, 2) := by decide +kernel
theorem dX12_trick_45 : decode cX12_trick 45 = .ok (.iadd, 1) := by decide +kernel
theorem dX12_trick_46 : decode cX12_trick 46 = .ok (.iload_n 2, 1) := by decide +kernel
theorem dX12_trick_47 : decode cX12_trick 47 = .ok (.iadd, 1) := by decide +kernel
theorem dX12_trick_48 : decode cX12_trick 48 = .ok (.iaload, 1) := by decide +kernel
theorem dX12_trick_49 : decode cX12_trick 49 = .ok (.goto 4, 3) := by decide +kernel
theorem dX12_trick_52 : decode cX12_trick 52 = .ok (.iconst (-1), 1) := by decide +kernel
theorem dX12_trick_53 : decode cX12_trick 53 = .ok (.ireturn, 1) := by decide +kernel
theorem dX12_hand_0 : decode cX12_hand 0 = .ok (.aload_n 0, 1) := by decide +kernel
theorem dX12_hand_1 : decode cX12_hand 1 = .ok (.iload_n 1, 1) := by decide +kernel
theorem dX12_hand_2 : decode cX12_hand 2 = .ok (.invokevirtual 107, 3) := by decide +kernel
theorem dX12_hand_5 : decode cX12_hand 5 = .ok (.ifCond .eq 10, 3) := by decide +kernel
theorem dX12_hand_8 : decode cX12_hand 8 = .ok (.iload_n 2, 1) := by decide +kernel
theorem dX12_hand_9 : decode cX12_hand 9 = .ok (.invokestatic 110, 3) := by decide +kernel
theorem dX12_hand_12 : decode cX12_hand 12 = .ok (.ifCond .ne 6, 3) := by decide +kernel
theorem dX12_hand_15 : decode cX12_hand 15 = .ok (.bipush (-2), 2) := by decide +kernel
theorem dX12_hand_17 : decode cX12_hand 17 = .ok (.ireturn, 1) := by decide +kernel
theorem dX12_hand_18 : decode cX12_hand 18 = .ok (.aload_n 0, 1) := by decide +kernel
theorem dX12_hand_19 : decode cX12_hand 19 = .ok (.getfield 8, 3) := by decide +kernel
theorem dX12_hand_22 : decode cX12_hand 22 = .ok (.sipush 1290, 3) := by decide +kernel
theorem dX12_hand_25 : decode cX12_hand 25 = .ok (.iload_n 1, 1) := by decide +kernel
theorem dX12_hand_26 : decode cX12_hand 26 = .ok (.imul, 1) := by decide +kernel
theorem dX12_hand_27 : decode cX12_hand 27 = .ok (.bipush 22, 2) := by decide +kernel
theorem dX12_hand_29 : decode cX12_hand 29 = .ok (.iadd, 1) := by decide +kernel
theorem dX12_hand_30 : decode cX12_hand 30 = .ok (.iload_n 2, 1) := by decide +kernel
theorem dX12_hand_31 : decode cX12_hand 31 = .ok (.iadd, 1) := by decide +kernel
theorem dX12_hand_32 : decode cX12_hand 32 = .ok (.iaload, 1) := by decide +kernel
theorem dX12_hand_33 : decode cX12_hand 33 = .ok (.istore 4, 2) := by decide +kernel
theorem dX12_hand_35 : decode cX12_hand 35 = .ok (.iload 4, 2) := by decide +kernel
theorem dX12_hand_37 : decode cX12_hand 37 = .ok (.iconst (-1), 1) := by decide +kernel
theorem dX12_hand_38 : decode cX12_hand 38 = .ok (.if_icmp .ne 8, 3) := by decide +kernel
theorem dX12_hand_41 : decode cX12_hand 41 = .ok (.bipush (-12), 2) := by decide +kernel
theorem dX12_hand_43 : decode cX12_hand 43 = .ok (.goto 40, 3) := by decide +kernel
theorem dX12_hand_46 : decode cX12_hand 46 = .ok (.iload_n 3, 1) := by decide +kernel
theorem dX12_hand_47 : decode cX12_hand 47 = .ok (.iconst 0, 1) := by decide +kernel
theorem dX12_hand_48 : decode cX12_hand 48 = .ok (.iload 4, 2) := by decide +kernel
theorem dX12_hand_50 : decode cX12_hand 50 = .ok (.iconst 1, 1) := by decide +kernel
theorem dX12_hand_51 : decode cX12_hand 51 = .ok (.isub, 1) := by decide +kernel
theorem dX12_hand_52 : decode cX12_hand 52 = .ok (.invokestatic 91, 3) := by decide +kernel
theorem dX12_hand_55 : decode cX12_hand 55 = .ok (.ifCond .eq 27, 3) := by decide +kernel
theorem dX12_hand_58 : decode cX12_hand 58 = .ok (.aload_n 0, 1) := by decide +kernel
theorem dX12_hand_59 : decode cX12_hand 59 = .ok (.getfield 8, 3) := by decide +kernel
theorem dX12_hand_62 : decode cX12_hand 62 = .ok (.sipush 1290, 3) := by decide +kernel
theorem dX12_hand_65 : decode cX12_hand 65 = .ok (.iload_n 1, 1) := by decide +kernel
theorem dX12_hand_66 : decode cX12_hand 66 = .ok (.imul, 1) := by decide +kernel
theorem dX12_hand_67 : decode cX12_hand 67 = .ok (.sipush 230, 3) := by decide +kernel
theorem dX12_hand_70 : decode cX12_hand 70 = .ok (.iadd, 1) := by decide +kernel
theorem dX12_hand_71 : decode cX12_hand 71 = .ok (.bipush 60, 2) := by decide +kernel
theorem dX12_hand_73 : decode cX12_hand 73 = .ok (.iload_n 2, 1) := by decide +kernel
theorem dX12_hand_74 : decode cX12_hand 74 = .ok (.imul, 1) := by decide +kernel
theorem dX12_hand_75 : decode cX12_hand 75 = .ok (.iadd, 1) := by decide +kernel
theorem dX12_hand_76 : decode cX12_hand 76 = .ok (.iload_n 3, 1) := by decide +kernel
theorem dX12_hand_77 : decode cX12_hand 77 = .ok (.iadd, 1) := by decide +kernel
theorem dX12_hand_78 : decode cX12_hand 78 = .ok (.iaload, 1) := by decide +kernel
theorem dX12_hand_79 : decode cX12_hand 79 = .ok (.goto 4, 3) := by decide +kernel
theorem dX12_hand_82 : decode cX12_hand 82 = .ok (.iconst (-1), 1) := by decide +kernel
theorem dX12_hand_83 : decode cX12_hand 83 = .ok (.ireturn, 1) := by decide +kernel
theorem dX12_left_0 : decode cX12_left 0 = .ok (.aload_n 0, 1) := by decide +kernel
theorem dX12_left_1 : decode cX12_left 1 = .ok (.iload_n 1, 1) := by decide +kernel
theorem dX12_left_2 : decode cX12_left 2 = .ok (.invokevirtual 107, 3) := by decide +kernel
theorem dX12_left_5 : decode cX12_left 5 = .ok (.ifCond .eq 12, 3) := by decide +kernel
theorem dX12_left_8 : decode cX12_left 8 = .ok (.iload_n 2, 1) := by decide +kernel
theorem dX12_left_9 : decode cX12_left 9 = .ok (.iconst 0, 1) := by decide +kernel
theorem dX12_left_10 : decode cX12_left 10 = .ok (.iconst 4, 1) := by decide +kernel
theorem dX12_left_11 : decode cX12_left 11 = .ok (.invokestatic 91, 3) := by decide +kernel
theorem dX12_left_14 : decode cX12_left 14 = .ok (.ifCond .ne 6, 3) := by decide +kernel
theorem dX12_left_17 : decode cX12_left 17 = .ok (.bipush (-2), 2) := by decide +kernel
theorem dX12_left_19 : decode cX12_left 19 = .ok (.ireturn, 1) := by decide +kernel
theorem dX12_left_20 : decode cX12_left 20 = .ok (.iload_n 2, 1) := by decide +kernel
theorem dX12_left_21 : decode cX12_left 21 = .ok (.iconst 4, 1) := by decide +kernel
theorem dX12_left_22 : decode cX12_left 22 = .ok (.if_icmp .ne 19, 3) := by decide +kernel
theorem dX12_left_25 : decode cX12_left 25 = .ok (.aload_n 0, 1) := by decide +kernel
theorem dX12_left_26 : decode cX12_left 26 = .ok (.getfield 8, 3) := by decide +kernel
theorem dX12_left_29 : decode cX12_left 29 = .ok (.sipush 1290, 3) := by decide +kernel
theorem dX12_left_32 : decode cX12_left 32 = .ok (.iload_n 1, 1) := by decide +kernel
theorem dX12_left_33 : decode cX12_left 33 = .ok (.imul, 1) := by decide +kernel
theorem dX12_left_34 : decode cX12_left 34 = .ok (.bipush 21, 2) := by decide +kernel
theorem dX12_left_36 : decode cX12_left 36 = .ok (.iadd, 1) := by decide +kernel
theorem dX12_left_37 : decode cX12_left 37 = .ok (.iaload, 1) := by decide +kernel
theorem dX12_left_38 : decode cX12_left 38 = .ok (.goto 18, 3) := by decide +kernel
theorem dX12_left_41 : decode cX12_left 41 = .ok (.aload_n 0, 1) := by decide +kernel
theorem dX12_left_42 : decode cX12_left 42 = .ok (.getfield 8, 3) := by decide +kernel
theorem dX12_left_45 : decode cX12_left 45 = .ok (.sipush 1290, 3) := by decide +kernel
theorem dX12_left_48 : decode cX12_left 48 = .ok (.iload_n 1, 1) := by decide +kernel
theorem dX12_left_49 : decode cX12_left 49 = .ok (.imul, 1) := by decide +kernel
theorem dX12_left_50 : decode cX12_left 50 = .ok (.bipush 22, 2) := by decide +kernel
theorem dX12_left_52 : decode cX12_left 52 = .ok (.iadd, 1) := by decide +kernel
theorem dX12_left_53 : decode cX12_left 53 = .ok (.iload_n 2, 1) := by decide +kernel
theorem dX12_left_54 : decode cX12_left 54 = .ok (.iadd, 1) := by decide +kernel
theorem dX12_left_55 : decode cX12_left 55 = .ok (.iaload, 1) := by decide +kernel
theorem dX12_left_56 : decode cX12_left 56 = .ok (.ireturn, 1) := by decide +kernel
theorem dX12_winner_0 : decode cX12_winner 0 = .ok (.aload_n 0, 1) := by decide +kernel
theorem dX12_winner_1 : decode cX12_winner 1 = .ok (.iload_n 1, 1) := by decide +kernel
theorem dX12_winner_2 : decode cX12_winner 2 = .ok (.invokevirtual 107, 3) := by decide +kernel
theorem dX12_winner_5 : decode cX12_winner 5 = .ok (.ifCond .eq 19, 3) := by decide +kernel
theorem dX12_winner_8 : decode cX12_winner 8 = .ok (.aload_n 0, 1) := by decide +kernel
theorem dX12_winner_9 : decode cX12_winner 9 = .ok (.getfield 8, 3) := by decide +kernel
theorem dX12_winner_12 : decode cX12_winner 12 = .ok (.sipush 1290, 3) := by decide +kernel
theorem dX12_winner_15 : decode cX12_winner 15 = .ok (.iload_n 1, 1) := by decide +kernel
theorem dX12_winner_16 : decode cX12_winner 16 = .ok (.imul, 1) := by decide +kernel
theorem dX12_winner_17 : decode cX12_winner 17 = .ok (.bipush 19, 2) := by decide +kernel
theorem dX12_winner_19 : decode cX12_winner 19 = .ok (.iadd, 1) := by decide +kernel
theorem dX12_winner_20 : decode cX12_winner 20 = .ok (.iaload, 1) := by decide +kernel
theorem dX12_winner_21 : decode cX12_winner 21 = .ok (.goto 5, 3) := by decide +kernel
theorem dX12_winner_24 : decode cX12_winner 24 = .ok (.bipush (-2), 2) := by decide +kernel
theorem dX12_winner_26 : decode cX12_winner 26 = .ok (.ireturn, 1) := by decide +kernel
theorem dX12_won_0 : decode cX12_won 0 = .ok (.aload_n 0, 1) := by decide +kernel
theorem dX12_won_1 : decode cX12_won 1 = .ok (.iload_n 1, 1) := by decide +kernel
theorem dX12_won_2 : decode cX12_won 2 = .ok (.invokevirtual 107, 3) := by decide +kernel
theorem dX12_won_5 : decode cX12_won 5 = .ok (.ifCond .eq 12, 3) := by decide +kernel
theorem dX12_won_8 : decode cX12_won 8 = .ok (.iload_n 2, 1) := by decide +kernel
theorem dX12_won_9 : decode cX12_won 9 = .ok (.iconst 0, 1) := by decide +kernel
theorem dX12_won_10 : decode cX12_won 10 = .ok (.iconst 1, 1) := by decide +kernel
theorem dX12_won_11 : decode cX12_won 11 = .ok (.invokestatic 91, 3) := by decide +kernel
theorem dX12_won_14 : decode cX12_won 14 = .ok (.ifCond .ne 6, 3) := by decide +kernel
theorem dX12_won_17 : decode cX12_won 17 = .ok (.bipush (-2), 2) := by decide +kernel
theorem dX12_won_19 : decode cX12_won 19 = .ok (.ireturn, 1) := by decide +kernel
theorem dX12_won_20 : decode cX12_won 20 = .ok (.iload_n 3, 1) := by decide +kernel
theorem dX12_won_21 : decode cX12_won 21 = .ok (.iconst 0, 1) := by decide +kernel
theorem dX12_won_22 : decode cX12_won 22 = .ok (.iconst 2, 1) := by decide +kernel
theorem dX12_won_23 : decode cX12_won 23 = .ok (.invokestatic 91, 3) := by decide +kernel
theorem dX12_won_26 : decode cX12_won 26 = .ok (.ifCond .ne 6, 3) := by decide +kernel
theorem dX12_won_29 : decode cX12_won 29 = .ok (.bipush (-3), 2) := by decide +kernel
theorem dX12_won_31 : decode cX12_won 31 = .ok (.ireturn, 1) := by decide +kernel
theorem dX12_won_32 : decode cX12_won 32 = .ok (.sipush 1290, 3) := by decide +kernel
theorem dX12_won_35 : decode cX12_won 35 = .ok (.iload_n 1, 1) := by decide +kernel
theorem dX12_won_36 : decode cX12_won 36 = .ok (.imul, 1) := by decide +kernel
theorem dX12_won_37 : decode cX12_won 37 = .ok (.istore 4, 2) := by decide +kernel
theorem dX12_won_39 : decode cX12_won 39 = .ok (.iconst 0, 1) := by decide +kernel
theorem dX12_won_40 : decode cX12_won 40 = .ok (.istore 5, 2) := by decide +kernel
theorem dX12_won_42 : decode cX12_won 42 = .ok (.iconst 0, 1) := by decide +kernel
theorem dX12_won_43 : decode cX12_won 43 = .ok (.istore 6, 2) := by decide +kernel
theorem dX12_won_45 : decode cX12_won 45 = .ok (.iload 6, 2) := by decide +kernel
theorem dX12_won_47 : decode cX12_won 47 = .ok (.aload_n 0, 1) := by decide +kernel
theorem dX12_won_48 : decode cX12_won 48 = .ok (.getfield 8, 3) := by decide +kernel
theorem dX12_won_51 : decode cX12_won 51 = .ok (.iload 4, 2) := by decide +kernel
theorem dX12_won_53 : decode cX12_won 53 = .ok (.iconst 1, 1) := by decide +kernel
theorem dX12_won_54 : decode cX12_won 54 = .ok (.iadd, 1) := by decide +kernel
theorem dX12_won_55 : decode cX12_won 55 = .ok (.iaload, 1) := by decide +kernel
theorem dX12_won_56 : decode cX12_won 56 = .ok (.if_icmp .ge 39, 3) := by decide +kernel
theorem dX12_won_59 : decode cX12_won 59 = .ok (.iload 5, 2) := by decide +kernel
theorem dX12_won_61 : decode cX12_won 61 = .ok (.aload_n 0, 1) := by decide +kernel
theorem dX12_won_62 : decode cX12_won 62 = .ok (.getfield 8, 3) := by decide +kernel
theorem dX12_won_65 : decode cX12_won 65 = .ok (.iload 4, 2) := by decide +kernel
theorem dX12_won_67 : decode cX12_won 67 = .ok (.bipush 110, 2) := by decide +kernel
theorem dX12_won_69 : decode cX12_won 69 = .ok (.iadd, 1) := by decide +kernel
theorem dX12_won_70 : decode cX12_won 70 = .ok (.iload 6, 2) := by decide +kernel
theorem dX12_won_72 : decode cX12_won 72 = .ok (.iadd, 1) := by decide +kernel
theorem dX12_won_73 : decode cX12_won 73 = .ok (.iaload, 1) := by decide +kernel
theorem dX12_won_74 : decode cX12_won 74 = .ok (.bipush 6, 2) := by decide +kernel
theorem dX12_won_76 : decode cX12_won 76 = .ok (.iload_n 2, 1) := by decide +kernel
theorem dX12_won_77 : decode cX12_won 77 = .ok (.iadd, 1) := by decide +kernel
theorem dX12_won_78 : decode cX12_won 78 = .ok (.if_icmp .ne 7, 3) := by decide +kernel
theorem dX12_won_81 : decode cX12_won 81 = .ok (.iconst 1, 1) := by decide +kernel
theorem dX12_won_82 : decode cX12_won 82 = .ok (.goto 4, 3) := by decide +kernel
theorem dX12_won_85 : decode cX12_won 85 = .ok (.iconst 0, 1) := by decide +kernel
theorem dX12_won_86 : decode cX12_won 86 = .ok (.iadd, 1) := by decide +kernel
theorem dX12_won_87 : decode cX12_won 87 = .ok (.istore 5, 2) := by decide +kernel
theorem dX12_won_89 : decode cX12_won 89 = .ok (.iinc 6 1, 3) := by decide +kernel
theorem dX12_won_92 : decode cX12_won 92 = .ok (.goto (-47), 3) := by decide +kernel
theorem dX12_won_95 : decode cX12_won 95 = .ok (.iload_n 3, 1) := by decide +kernel
theorem dX12_won_96 : decode cX12_won 96 = .ok (.ifCond .ne 18, 3) := by decide +kernel
theorem dX12_won_99 : decode cX12_won 99 = .ok (.aload_n 0, 1) := by decide +kernel
theorem dX12_won_100 : decode cX12_won 100 = .ok (.getfield 8, 3) := by decide +kernel
theorem dX12_won_103 : decode cX12_won 103 = .ok (.iload 4, 2) := by decide +kernel
theorem dX12_won_105 : decode cX12_won 105 = .ok (.bipush 15, 2) := by decide +kernel
theorem dX12_won_107 : decode cX12_won 107 = .ok (.iadd, 1) := by decide +kernel
theorem dX12_won_108 : decode cX12_won 108 = .ok (.iload_n 2, 1) := by decide +kernel
theorem dX12_won_109 : decode cX12_won 109 = .ok (.iadd, 1) := by decide +kernel
theorem dX12_won_110 : decode cX12_won 110 = .ok (.iaload, 1) := by decide +kernel
theorem dX12_won_111 : decode cX12_won 111 = .ok (.goto 25, 3) := by decide +kernel
theorem dX12_won_114 : decode cX12_won 114 = .ok (.iload_n 3, 1) := by decide +kernel
theorem dX12_won_115 : decode cX12_won 115 = .ok (.iconst 1, 1) := by decide +kernel
theorem dX12_won_116 : decode cX12_won 116 = .ok (.if_icmp .ne 18, 3) := by decide +kernel
theorem dX12_won_119 : decode cX12_won 119 = .ok (.aload_n 0, 1) := by decide +kernel
theorem dX12_won_120 : decode cX12_won 120 = .ok (.getfield 8, 3) := by decide +kernel
theorem dX12_won_123 : decode cX12_won 123 = .ok (.iload 4, 2) := by decide +kernel
theorem dX12_won_125 : decode cX12_won 125 = .ok (.bipush 17, 2) := by decide +kernel
theorem dX12_won_127 : decode cX12_won 127 = .ok (.iadd, 1) := by decide +kernel
theorem dX12_won_128 : decode cX12_won 128 = .ok (.iload_n 2, 1) := by decide +kernel
theorem dX12_won_129 : decode cX12_won 129 = .ok (.iadd, 1) := by decide +kernel
theorem dX12_won_130 : decode cX12_won 130 = .ok (.iaload, 1) := by decide +kernel
theorem dX12_won_131 : decode cX12_won 131 = .ok (.goto 5, 3) := by decide +kernel
theorem dX12_won_134 : decode cX12_won 134 = .ok (.iload 5, 2) := by decide +kernel
theorem dX12_won_136 : decode cX12_won 136 = .ok (.ireturn, 1) := by decide +kernel
theorem dX12_revokes_0 : decode cX12_revokes 0 = .ok (.aload_n 0, 1) := by decide +kernel
theorem dX12_revokes_1 : decode cX12_revokes 1 = .ok (.iload_n 1, 1) := by decide +kernel
theorem dX12_revokes_2 : decode cX12_revokes 2 = .ok (.invokevirtual 107, 3) := by decide +kernel
theorem dX12_revokes_5 : decode cX12_revokes 5 = .ok (.ifCond .eq 10, 3) := by decide +kernel
theorem dX12_revokes_8 : decode cX12_revokes 8 = .ok (.iload_n 2, 1) := by decide +kernel
theorem dX12_revokes_9 : decode cX12_revokes 9 = .ok (.invokestatic 110, 3) := by decide +kernel
theorem dX12_revokes_12 : decode cX12_revokes 12 = .ok (.ifCond .ne 6, 3) := by decide +kernel
theorem dX12_revokes_15 : decode cX12_revokes 15 = .ok (.bipush (-2), 2) := by decide +kernel
theorem dX12_revokes_17 : decode cX12_revokes 17 = .ok (.ireturn, 1) := by decide +kernel
theorem dX12_revokes_18 : decode cX12_revokes 18 = .ok (.iload_n 3, 1) := by decide +kernel
theorem dX12_revokes_19 : decode cX12_revokes 19 = .ok (.iconst 0, 1) := by decide +kernel
theorem dX12_revokes_20 : decode cX12_revokes 20 = .ok (.iconst 1, 1) := by decide +kernel
theorem dX12_revokes_21 : decode cX12_revokes 21 = .ok (.invokestatic 91, 3) := by decide +kernel
theorem dX12_revokes_24 : decode cX12_revokes 24 = .ok (.ifCond .ne 6, 3) := by decide +kernel
theorem dX12_revokes_27 : decode cX12_revokes 27 = .ok (.bipush (-3), 2) := by decide +kernel
theorem dX12_revokes_29 : decode cX12_revokes 29 = .ok (.ireturn, 1) := by decide +kernel
theorem dX12_revokes_30 : decode cX12_revokes 30 = .ok (.sipush 1290, 3) := by decide +kernel
theorem dX12_revokes_33 : decode cX12_revokes 33 = .ok (.iload_n 1, 1) := by decide +kernel
theorem dX12_revokes_34 : decode cX12_revokes 34 = .ok (.imul, 1) := by decide +kernel
theorem dX12_revokes_35 : decode cX12_revokes 35 = .ok (.istore 4, 2) := by decide +kernel
theorem dX12_revokes_37 : decode cX12_revokes 37 = .ok (.iconst 0, 1) := by decide +kernel
theorem dX12_revokes_38 : decode cX12_revokes 38 = .ok (.istore 5, 2) := by decide +kernel
theorem dX12_revokes_40 : decode cX12_revokes 40 = .ok (.iconst 0, 1) := by decide +kernel
theorem dX12_revokes_41 : decode cX12_revokes 41 = .ok (.istore 6, 2) := by decide +kernel
theorem dX12_revokes_43 : decode cX12_revokes 43 = .ok (.iload 6, 2) := by decide +kernel
theorem dX12_revokes_45 : decode cX12_revokes 45 = .ok (.aload_n 0, 1) := by decide +kernel
theorem dX12_revokes_46 : decode cX12_revokes 46 = .ok (.getfield 8, 3) := by decide +kernel
theorem dX12_revokes_49 : decode cX12_revokes 49 = .ok (.iload 4, 2) := by decide +kernel
theorem dX12_revokes_51 : decode cX12_revokes 51 = .ok (.bipush 43, 2) := by decide +kernel
theorem dX12_revokes_53 : decode cX12_revokes 53 = .ok (.iadd, 1) := by decide +kernel
theorem dX12_revokes_54 : decode cX12_revokes 54 = .ok (.iaload, 1) := by decide +kernel
theorem dX12_revokes_55 : decode cX12_revokes 55 = .ok (.if_icmp .ge 59, 3) := by decide +kernel
theorem dX12_revokes_58 : decode cX12_revokes 58 = .ok (.iload 5, 2) := by decide +kernel
theorem dX12_revokes_60 : decode cX12_revokes 60 = .ok (.aload_n 0, 1) := by decide +kernel
theorem dX12_revokes_61 : decode cX12_revokes 61 = .ok (.getfield 8, 3) := by decide +kernel
theorem dX12_revokes_64 : decode cX12_revokes 64 = .ok (.iload 4, 2) := by decide +kernel
theorem dX12_revokes_66 : decode cX12_revokes 66 = .ok (.sipush 650, 3) := by decide +kernel
theorem dX12_revokes_69 : decode cX12_revokes 69 = .ok (.iadd, 1) := by decide +kernel
theorem dX12_revokes_70 : decode cX12_revokes 70 = .ok (.iload 6, 2) := by decide +kernel
theorem dX12_revokes_72 : decode cX12_revokes 72 = .ok (.iadd, 1) := by decide +kernel
theorem dX12_revokes_73 : decode cX12_revokes 73 = .ok (.iaload, 1) := by decide +kernel
theorem dX12_revokes_74 : decode cX12_revokes 74 = .ok (.iload_n 2, 1) := by decide +kernel
theorem dX12_revokes_75 : decode cX12_revokes 75 = .ok (.if_icmp .ne 29, 3) := by decide +kernel
theorem dX12_revokes_78 : decode cX12_revokes 78 = .ok (.iload_n 3, 1) := by decide +kernel
theorem dX12_revokes_79 : decode cX12_revokes 79 = .ok (.ifCond .eq 21, 3) := by decide +kernel
theorem dX12_revokes_82 : decode cX12_revokes 82 = .ok (.aload_n 0, 1) := by decide +kernel
theorem dX12_revokes_83 : decode cX12_revokes 83 = .ok (.getfield 8, 3) := by decide +kernel
theorem dX12_revokes_86 : decode cX12_revokes 86 = .ok (.iload 4, 2) := by decide +kernel
theorem dX12_revokes_88 : decode cX12_revokes 88 = .ok (.sipush 830, 3) := by decide +kernel
theorem dX12_revokes_91 : decode cX12_revokes 91 = .ok (.iadd, 1) := by decide +kernel
theorem dX12_revokes_92 : decode cX12_revokes 92 = .ok (.iload 6, 2) := by decide +kernel
theorem dX12_revokes_94 : decode cX12_revokes 94 = .ok (.iadd, 1) := by decide +kernel
theorem dX12_revokes_95 : decode cX12_revokes 95 = .ok (.iaload, 1) := by decide +kernel
theorem dX12_revokes_96 : decode cX12_revokes 96 = .ok (.iconst 1, 1) := by decide +kernel
theorem dX12_revokes_97 : decode cX12_revokes 97 = .ok (.if_icmp .ne 7, 3) := by decide +kernel
theorem dX12_revokes_100 : decode cX12_revokes 100 = .ok (.iconst 1, 1) := by decide +kernel
theorem dX12_revokes_101 : decode cX12_revokes 101 = .ok (.goto 4, 3) := by decide +kernel
theorem dX12_revokes_104 : decode cX12_revokes 104 = .ok (.iconst 0, 1) := by decide +kernel
theorem dX12_revokes_105 : decode cX12_revokes 105 = .ok (.iadd, 1) := by decide +kernel
theorem dX12_revokes_106 : decode cX12_revokes 106 = .ok (.istore 5, 2) := by decide +kernel
theorem dX12_revokes_108 : decode cX12_revokes 108 = .ok (.iinc 6 1, 3) := by decide +kernel
theorem dX12_revokes_111 : decode cX12_revokes 111 = .ok (.goto (-68), 3) := by decide +kernel
theorem dX12_revokes_114 : decode cX12_revokes 114 = .ok (.iload 5, 2) := by decide +kernel
theorem dX12_revokes_116 : decode cX12_revokes 116 = .ok (.ireturn, 1) := by decide +kernel
theorem dX12_sum_0 : decode cX12_sum 0 = .ok (.aload_n 0, 1) := by decide +kernel
theorem dX12_sum_1 : decode cX12_sum 1 = .ok (.iload_n 1, 1) := by decide +kernel
theorem dX12_sum_2 : decode cX12_sum 2 = .ok (.invokevirtual 107, 3) := by decide +kernel
theorem dX12_sum_5 : decode cX12_sum 5 = .ok (.ifCond .eq 28, 3) := by decide +kernel
theorem dX12_sum_8 : decode cX12_sum 8 = .ok (.iload_n 2, 1) := by decide +kernel
theorem dX12_sum_9 : decode cX12_sum 9 = .ok (.invokestatic 110, 3) := by decide +kernel
theorem dX12_sum_12 : decode cX12_sum 12 = .ok (.ifCond .eq 21, 3) := by decide +kernel
theorem dX12_sum_15 : decode cX12_sum 15 = .ok (.aload_n 0, 1) := by decide +kernel
theorem dX12_sum_16 : decode cX12_sum 16 = .ok (.getfield 8, 3) := by decide +kernel
theorem dX12_sum_19 : decode cX12_sum 19 = .ok (.sipush 1290, 3) := by decide +kernel
theorem dX12_sum_22 : decode cX12_sum 22 = .ok (.iload_n 1, 1) := by decide +kernel
theorem dX12_sum_23 : decode cX12_sum 23 = .ok (.imul, 1) := by decide +kernel
theorem dX12_sum_24 : decode cX12_sum 24 = .ok (.bipush 39, 2) := by decide +kernel
theorem dX12_sum_26 : decode cX12_sum 26 = .ok (.iadd, 1) := by decide +kernel
theorem dX12_sum_27 : decode cX12_sum 27 = .ok (.iload_n 2, 1) := by decide +kernel
theorem dX12_sum_28 : decode cX12_sum 28 = .ok (.iadd, 1) := by decide +kernel
theorem dX12_sum_29 : decode cX12_sum 29 = .ok (.iaload, 1) := by decide +kernel
theorem dX12_sum_30 : decode cX12_sum 30 = .ok (.goto 5, 3) := by decide +kernel
theorem dX12_sum_33 : decode cX12_sum 33 = .ok (.bipush (-2), 2) := by decide +kernel
theorem dX12_sum_35 : decode cX12_sum 35 = .ok (.ireturn, 1) := by decide +kernel
theorem dX12_tie_0 : decode cX12_tie 0 = .ok (.aload_n 0, 1) := by decide +kernel
theorem dX12_tie_1 : decode cX12_tie 1 = .ok (.iload_n 1, 1) := by decide +kernel
theorem dX12_tie_2 : decode cX12_tie 2 = .ok (.invokevirtual 107, 3) := by decide +kernel
theorem dX12_tie_5 : decode cX12_tie 5 = .ok (.ifCond .ne 6, 3) := by decide +kernel
theorem dX12_tie_8 : decode cX12_tie 8 = .ok (.bipush (-2), 2) := by decide +kernel
theorem dX12_tie_10 : decode cX12_tie 10 = .ok (.ireturn, 1) := by decide +kernel
theorem dX12_tie_11 : decode cX12_tie 11 = .ok (.sipush 1290, 3) := by decide +kernel
theorem dX12_tie_14 : decode cX12_tie 14 = .ok (.iload_n 1, 1) := by decide +kernel
theorem dX12_tie_15 : decode cX12_tie 15 = .ok (.imul, 1) := by decide +kernel
theorem dX12_tie_16 : decode cX12_tie 16 = .ok (.bipush 39, 2) := by decide +kernel
theorem dX12_tie_18 : decode cX12_tie 18 = .ok (.iadd, 1) := by decide +kernel
theorem dX12_tie_19 : decode cX12_tie 19 = .ok (.istore_n 2, 1) := by decide +kernel
theorem dX12_tie_20 : decode cX12_tie 20 = .ok (.aload_n 0, 1) := by decide +kernel
theorem dX12_tie_21 : decode cX12_tie 21 = .ok (.getfield 8, 3) := by decide +kernel
theorem dX12_tie_24 : decode cX12_tie 24 = .ok (.iload_n 2, 1) := by decide +kernel
theorem dX12_tie_25 : decode cX12_tie 25 = .ok (.iaload, 1) := by decide +kernel
theorem dX12_tie_26 : decode cX12_tie 26 = .ok (.i2l, 1) := by decide +kernel
theorem dX12_tie_27 : decode cX12_tie 27 = .ok (.aload_n 0, 1) := by decide +kernel
theorem dX12_tie_28 : decode cX12_tie 28 = .ok (.getfield 8, 3) := by decide +kernel
theorem dX12_tie_31 : decode cX12_tie 31 = .ok (.iload_n 2, 1) := by decide +kernel
theorem dX12_tie_32 : decode cX12_tie 32 = .ok (.iconst 2, 1) := by decide +kernel
theorem dX12_tie_33 : decode cX12_tie 33 = .ok (.iadd, 1) := by decide +kernel
theorem dX12_tie_34 : decode cX12_tie 34 = .ok (.iaload, 1) := by decide +kernel
theorem dX12_tie_35 : decode cX12_tie 35 = .ok (.i2l, 1) := by decide +kernel
theorem dX12_tie_36 : decode cX12_tie 36 = .ok (.ladd, 1) := by decide +kernel
theorem dX12_tie_37 : decode cX12_tie 37 = .ok (.lstore_n 3, 1) := by decide +kernel
theorem dX12_tie_38 : decode cX12_tie 38 = .ok (.aload_n 0, 1) := by decide +kernel
theorem dX12_tie_39 : decode cX12_tie 39 = .ok (.getfield 8, 3) := by decide +kernel
theorem dX12_tie_42 : decode cX12_tie 42 = .ok (.iload_n 2, 1) := by decide +kernel
theorem dX12_tie_43 : decode cX12_tie 43 = .ok (.iconst 1, 1) := by decide +kernel
theorem dX12_tie_44 : decode cX12_tie 44 = .ok (.iadd, 1) := by decide +kernel
theorem dX12_tie_45 : decode cX12_tie 45 = .ok (.iaload, 1) := by decide +kernel
theorem dX12_tie_46 : decode cX12_tie 46 = .ok (.i2l, 1) := by decide +kernel
theorem dX12_tie_47 : decode cX12_tie 47 = .ok (.aload_n 0, 1) := by decide +kernel
theorem dX12_tie_48 : decode cX12_tie 48 = .ok (.getfield 8, 3) := by decide +kernel
theorem dX12_tie_51 : decode cX12_tie 51 = .ok (.iload_n 2, 1) := by decide +kernel
theorem dX12_tie_52 : decode cX12_tie 52 = .ok (.iconst 3, 1) := by decide +kernel
theorem dX12_tie_53 : decode cX12_tie 53 = .ok (.iadd, 1) := by decide +kernel
theorem dX12_tie_54 : decode cX12_tie 54 = .ok (.iaload, 1) := by decide +kernel
theorem dX12_tie_55 : decode cX12_tie 55 = .ok (.i2l, 1) := by decide +kernel
theorem dX12_tie_56 : decode cX12_tie 56 = .ok (.ladd, 1) := by decide +kernel
theorem dX12_tie_57 : decode cX12_tie 57 = .ok (.lstore 5, 2) := by decide +kernel
theorem dX12_tie_59 : decode cX12_tie 59 = .ok (.lload_n 3, 1) := by decide +kernel
theorem dX12_tie_60 : decode cX12_tie 60 = .ok (.lload 5, 2) := by decide +kernel
theorem dX12_tie_62 : decode cX12_tie 62 = .ok (.lcmp, 1) := by decide +kernel
theorem dX12_tie_63 : decode cX12_tie 63 = .ok (.ifCond .le 7, 3) := by decide +kernel
theorem dX12_tie_66 : decode cX12_tie 66 = .ok (.iconst 0, 1) := by decide +kernel
theorem dX12_tie_67 : decode cX12_tie 67 = .ok (.goto 15, 3) := by decide +kernel
theorem dX12_tie_70 : decode cX12_tie 70 = .ok (.lload 5, 2) := by decide +kernel
theorem dX12_tie_72 : decode cX12_tie 72 = .ok (.lload_n 3, 1) := by decide +kernel
theorem dX12_tie_73 : decode cX12_tie 73 = .ok (.lcmp, 1) := by decide +kernel
theorem dX12_tie_74 : decode cX12_tie 74 = .ok (.ifCond .le 7, 3) := by decide +kernel
theorem dX12_tie_77 : decode cX12_tie 77 = .ok (.iconst 1, 1) := by decide +kernel
theorem dX12_tie_78 : decode cX12_tie 78 = .ok (.goto 4, 3) := by decide +kernel
theorem dX12_tie_81 : decode cX12_tie 81 = .ok (.iconst 2, 1) := by decide +kernel
theorem dX12_tie_82 : decode cX12_tie 82 = .ok (.ireturn, 1) := by decide +kernel
theorem dX12_isEnd_0 : decode cX12_isEnd 0 = .ok (.aload_n 0, 1) := by decide +kernel
theorem dX12_isEnd_1 : decode cX12_isEnd 1 = .ok (.getfield 8, 3) := by decide +kernel
theorem dX12_isEnd_4 : decode cX12_isEnd 4 = .ok (.iload_n 1, 1) := by decide +kernel
theorem dX12_isEnd_5 : decode cX12_isEnd 5 = .ok (.iconst 5, 1) := by decide +kernel
theorem dX12_isEnd_6 : decode cX12_isEnd 6 = .ok (.iadd, 1) := by decide +kernel
theorem dX12_isEnd_7 : decode cX12_isEnd 7 = .ok (.iaload, 1) := by decide +kernel
theorem dX12_isEnd_8 : decode cX12_isEnd 8 = .ok (.iconst 1, 1) := by decide +kernel
theorem dX12_isEnd_9 : decode cX12_isEnd 9 = .ok (.if_icmp .ne 19, 3) := by decide +kernel
theorem dX12_isEnd_12 : decode cX12_isEnd 12 = .ok (.aload_n 0, 1) := by decide +kernel
theorem dX12_isEnd_13 : decode cX12_isEnd 13 = .ok (.getfield 8, 3) := by decide +kernel
theorem dX12_isEnd_16 : decode cX12_isEnd 16 = .ok (.iload_n 1, 1) := by decide +kernel
theorem dX12_isEnd_17 : decode cX12_isEnd 17 = .ok (.bipush 26, 2) := by decide +kernel
theorem dX12_isEnd_19 : decode cX12_isEnd 19 = .ok (.iadd, 1) := by decide +kernel
theorem dX12_isEnd_20 : decode cX12_isEnd 20 = .ok (.iaload, 1) := by decide +kernel
theorem dX12_isEnd_21 : decode cX12_isEnd 21 = .ok (.ifCond .ne 7, 3) := by decide +kernel
theorem dX12_isEnd_24 : decode cX12_isEnd 24 = .ok (.iconst 1, 1) := by decide +kernel
theorem dX12_isEnd_25 : decode cX12_isEnd 25 = .ok (.goto 4, 3) := by decide +kernel
theorem dX12_isEnd_28 : decode cX12_isEnd 28 = .ok (.iconst 0, 1) := by decide +kernel
theorem dX12_isEnd_29 : decode cX12_isEnd 29 = .ok (.istore_n 2, 1) := by decide +kernel
theorem dX12_isEnd_30 : decode cX12_isEnd 30 = .ok (.iconst 0, 1) := by decide +kernel
theorem dX12_isEnd_31 : decode cX12_isEnd 31 = .ok (.istore_n 3, 1) := by decide +kernel
theorem dX12_isEnd_32 : decode cX12_isEnd 32 = .ok (.iload_n 3, 1) := by decide +kernel
theorem dX12_isEnd_33 : decode cX12_isEnd 33 = .ok (.iconst 4, 1) := by decide +kernel
theorem dX12_isEnd_34 : decode cX12_isEnd 34 = .ok (.if_icmp .ge 101, 3) := by decide +kernel
theorem dX12_isEnd_37 : decode cX12_isEnd 37 = .ok (.iload_n 2, 1) := by decide +kernel
theorem dX12_isEnd_38 : decode cX12_isEnd 38 = .ok (.ifCond .eq 22, 3) := by decide +kernel
theorem dX12_isEnd_41 : decode cX12_isEnd 41 = .ok (.aload_n 0, 1) := by decide +kernel
theorem dX12_isEnd_42 : decode cX12_isEnd 42 = .ok (.getfield 8, 3) := by decide +kernel
theorem dX12_isEnd_45 : decode cX12_isEnd 45 = .ok (.iload_n 1, 1) := by decide +kernel
theorem dX12_isEnd_46 : decode cX12_isEnd 46 = .ok (.bipush 22, 2) := by decide +kernel
theorem dX12_isEnd_48 : decode cX12_isEnd 48 = .ok (.iadd, 1) := by decide +kernel
theorem dX12_isEnd_49 : decode cX12_isEnd 49 = .ok (.iload_n 3, 1) := by decide +kernel
theorem dX12_isEnd_50 : decode cX12_isEnd 50 = .ok (.iadd, 1) := by decide +kernel
theorem dX12_isEnd_51 : decode cX12_isEnd 51 = .ok (.iaload, 1) := by decide +kernel
theorem dX12_isEnd_52 : decode cX12_isEnd 52 = .ok (.iconst 4, 1) := by decide +kernel
theorem dX12_isEnd_53 : decode cX12_isEnd 53 = .ok (.if_icmp .gt 7, 3) := by decide +kernel
theorem dX12_isEnd_56 : decode cX12_isEnd 56 = .ok (.iconst 1, 1) := by decide +kernel
theorem dX12_isEnd_57 : decode cX12_isEnd 57 = .ok (.goto 4, 3) := by decide +kernel
theorem dX12_isEnd_60 : decode cX12_isEnd 60 = .ok (.iconst 0, 1) := by decide +kernel
theorem dX12_isEnd_61 : decode cX12_isEnd 61 = .ok (.istore_n 2, 1) := by decide +kernel
theorem dX12_isEnd_62 : decode cX12_isEnd 62 = .ok (.iconst 0, 1) := by decide +kernel
theorem dX12_isEnd_63 : decode cX12_isEnd 63 = .ok (.istore 4, 2) := by decide +kernel
theorem dX12_isEnd_65 : decode cX12_isEnd 65 = .ok (.iload_n 2, 1) := by decide +kernel
theorem dX12_isEnd_66 : decode cX12_isEnd 66 = .ok (.ifCond .eq 63, 3) := by decide +kernel
theorem dX12_isEnd_69 : decode cX12_isEnd 69 = .ok (.iload 4, 2) := by decide +kernel
theorem dX12_isEnd_71 : decode cX12_isEnd 71 = .ok (.aload_n 0, 1) := by decide +kernel
theorem dX12_isEnd_72 : decode cX12_isEnd 72 = .ok (.getfield 8, 3) := by decide +kernel
theorem dX12_isEnd_75 : decode cX12_isEnd 75 = .ok (.iload_n 1, 1) := by decide +kernel
theorem dX12_isEnd_76 : decode cX12_isEnd 76 = .ok (.bipush 22, 2) := by decide +kernel
theorem dX12_isEnd_78 : decode cX12_isEnd 78 = .ok (.iadd, 1) := by decide +kernel
theorem dX12_isEnd_79 : decode cX12_isEnd 79 = .ok (.iload_n 3, 1) := by decide +kernel
theorem dX12_isEnd_80 : decode cX12_isEnd 80 = .ok (.iadd, 1) := by decide +kernel
theorem dX12_isEnd_81 : decode cX12_isEnd 81 = .ok (.iaload, 1) := by decide +kernel
theorem dX12_isEnd_82 : decode cX12_isEnd 82 = .ok (.if_icmp .ge 47, 3) := by decide +kernel
theorem dX12_isEnd_85 : decode cX12_isEnd 85 = .ok (.aload_n 0, 1) := by decide +kernel
theorem dX12_isEnd_86 : decode cX12_isEnd 86 = .ok (.getfield 8, 3) := by decide +kernel
theorem dX12_isEnd_89 : decode cX12_isEnd 89 = .ok (.iload_n 1, 1) := by decide +kernel
theorem dX12_isEnd_90 : decode cX12_isEnd 90 = .ok (.bipush 50, 2) := by decide +kernel
theorem dX12_isEnd_92 : decode cX12_isEnd 92 = .ok (.iadd, 1) := by decide +kernel
theorem dX12_isEnd_93 : decode cX12_isEnd 93 = .ok (.aload_n 0, 1) := by decide +kernel
theorem dX12_isEnd_94 : decode cX12_isEnd 94 = .ok (.getfield 8, 3) := by decide +kernel
theorem dX12_isEnd_97 : decode cX12_isEnd 97 = .ok (.iload_n 1, 1) := by decide +kernel
theorem dX12_isEnd_98 : decode cX12_isEnd 98 = .ok (.sipush 230, 3) := by decide +kernel
theorem dX12_isEnd_101 : decode cX12_isEnd 101 = .ok (.iadd, 1) := by decide +kernel
theorem dX12_isEnd_102 : decode cX12_isEnd 102 = .ok (.bipush 60, 2) := by decide +kernel
theorem dX12_isEnd_104 : decode cX12_isEnd 104 = .ok (.iload_n 3, 1) := by decide +kernel
theorem dX12_isEnd_105 : decode cX12_isEnd 105 = .ok (.imul, 1) := by decide +kernel
theorem dX12_isEnd_106 : decode cX12_isEnd 106 = .ok (.iadd, 1) := by decide +kernel
theorem dX12_isEnd_107 : decode cX12_isEnd 107 = .ok (.iload 4, 2) := by decide +kernel
theorem dX12_isEnd_109 : decode cX12_isEnd 109 = .ok (.iadd, 1) := by decide +kernel
theorem dX12_isEnd_110 : decode cX12_isEnd 110 = .ok (.iaload, 1) := by decide +kernel
theorem dX12_isEnd_111 : decode cX12_isEnd 111 = .ok (.iadd, 1) := by decide +kernel
theorem dX12_isEnd_112 : decode cX12_isEnd 112 = .ok (.iaload, 1) := by decide +kernel
theorem dX12_isEnd_113 : decode cX12_isEnd 113 = .ok (.iconst 3, 1) := by decide +kernel
theorem dX12_isEnd_114 : decode cX12_isEnd 114 = .ok (.if_icmp .eq 7, 3) := by decide +kernel
theorem dX12_isEnd_117 : decode cX12_isEnd 117 = .ok (.iconst 1, 1) := by decide +kernel
theorem dX12_isEnd_118 : decode cX12_isEnd 118 = .ok (.goto 4, 3) := by decide +kernel
theorem dX12_isEnd_121 : decode cX12_isEnd 121 = .ok (.iconst 0, 1) := by decide +kernel
theorem dX12_isEnd_122 : decode cX12_isEnd 122 = .ok (.istore_n 2, 1) := by decide +kernel
theorem dX12_isEnd_123 : decode cX12_isEnd 123 = .ok (.iinc 4 1, 3) := by decide +kernel
theorem dX12_isEnd_126 : decode cX12_isEnd 126 = .ok (.goto (-61), 3) := by decide +kernel
theorem dX12_isEnd_129 : decode cX12_isEnd 129 = .ok (.iinc 3 1, 3) := by decide +kernel
theorem dX12_isEnd_132 : decode cX12_isEnd 132 = .ok (.goto (-100), 3) := by decide +kernel
theorem dX12_isEnd_135 : decode cX12_isEnd 135 = .ok (.iload_n 2, 1) := by decide +kernel
theorem dX12_isEnd_136 : decode cX12_isEnd 136 = .ok (.ireturn, 1) := by decide +kernel
theorem dX12_leftOf_0 : decode cX12_leftOf 0 = .ok (.iload_n 0, 1) := by decide +kernel
theorem dX12_leftOf_1 : decode cX12_leftOf 1 = .ok (.iconst 4, 1) := by decide +kernel
theorem dX12_leftOf_2 : decode cX12_leftOf 2 = .ok (.iload_n 1, 1) := by decide +kernel
theorem dX12_leftOf_3 : decode cX12_leftOf 3 = .ok (.imul, 1) := by decide +kernel
theorem dX12_leftOf_4 : decode cX12_leftOf 4 = .ok (.ishr, 1) := by decide +kernel
theorem dX12_leftOf_5 : decode cX12_leftOf 5 = .ok (.bipush 15, 2) := by decide +kernel
theorem dX12_leftOf_7 : decode cX12_leftOf 7 = .ok (.iand, 1) := by decide +kernel
theorem dX12_leftOf_8 : decode cX12_leftOf 8 = .ok (.istore_n 2, 1) := by decide +kernel
theorem dX12_leftOf_9 : decode cX12_leftOf 9 = .ok (.iload_n 2, 1) := by decide +kernel
theorem dX12_leftOf_10 : decode cX12_leftOf 10 = .ok (.iconst 1, 1) := by decide +kernel
theorem dX12_leftOf_11 : decode cX12_leftOf 11 = .ok (.iand, 1) := by decide +kernel
theorem dX12_leftOf_12 : decode cX12_leftOf 12 = .ok (.iload_n 2, 1) := by decide +kernel
theorem dX12_leftOf_13 : decode cX12_leftOf 13 = .ok (.iconst 1, 1) := by decide +kernel
theorem dX12_leftOf_14 : decode cX12_leftOf 14 = .ok (.ishr, 1) := by decide +kernel
theorem dX12_leftOf_15 : decode cX12_leftOf 15 = .ok (.iconst 1, 1) := by decide +kernel
theorem dX12_leftOf_16 : decode cX12_leftOf 16 = .ok (.iand, 1) := by decide +kernel
theorem dX12_leftOf_17 : decode cX12_leftOf 17 = .ok (.iadd, 1) := by decide +kernel
theorem dX12_leftOf_18 : decode cX12_leftOf 18 = .ok (.iload_n 2, 1) := by decide +kernel
theorem dX12_leftOf_19 : decode cX12_leftOf 19 = .ok (.iconst 2, 1) := by decide +kernel
theorem dX12_leftOf_20 : decode cX12_leftOf 20 = .ok (.ishr, 1) := by decide +kernel
theorem dX12_leftOf_21 : decode cX12_leftOf 21 = .ok (.iconst 1, 1) := by decide +kernel
theorem dX12_leftOf_22 : decode cX12_leftOf 22 = .ok (.iand, 1) := by decide +kernel
theorem dX12_leftOf_23 : decode cX12_leftOf 23 = .ok (.iadd, 1) := by decide +kernel
theorem dX12_leftOf_24 : decode cX12_leftOf 24 = .ok (.iload_n 2, 1) := by decide +kernel
theorem dX12_leftOf_25 : decode cX12_leftOf 25 = .ok (.iconst 3, 1) := by decide +kernel
theorem dX12_leftOf_26 : decode cX12_leftOf 26 = .ok (.ishr, 1) := by decide +kernel
theorem dX12_leftOf_27 : decode cX12_leftOf 27 = .ok (.iadd, 1) := by decide +kernel
theorem dX12_leftOf_28 : decode cX12_leftOf 28 = .ok (.ireturn, 1) := by decide +kernel
theorem dX12_isBetween_0 : decode cX12_isBetween 0 = .ok (.iconst 0, 1) := by decide +kernel
theorem dX12_isBetween_1 : decode cX12_isBetween 1 = .ok (.istore_n 2, 1) := by decide +kernel
theorem dX12_isBetween_2 : decode cX12_isBetween 2 = .ok (.iconst 0, 1) := by decide +kernel
theorem dX12_isBetween_3 : decode cX12_isBetween 3 = .ok (.istore_n 3, 1) := by decide +kernel
theorem dX12_isBetween_4 : decode cX12_isBetween 4 = .ok (.iload_n 3, 1) := by decide +kernel
theorem dX12_isBetween_5 : decode cX12_isBetween 5 = .ok (.iconst 4, 1) := by decide +kernel
theorem dX12_isBetween_6 : decode cX12_isBetween 6 = .ok (.if_icmp .ge 26, 3) := by decide +kernel
theorem dX12_isBetween_9 : decode cX12_isBetween 9 = .ok (.iload_n 2, 1) := by decide +kernel
theorem dX12_isBetween_10 : decode cX12_isBetween 10 = .ok (.aload_n 0, 1) := by decide +kernel
theorem dX12_isBetween_11 : decode cX12_isBetween 11 = .ok (.getfield 45, 3) := by decide +kernel
theorem dX12_isBetween_14 : decode cX12_isBetween 14 = .ok (.iload_n 3, 1) := by decide +kernel
theorem dX12_isBetween_15 : decode cX12_isBetween 15 = .ok (.iaload, 1) := by decide +kernel
theorem dX12_isBetween_16 : decode cX12_isBetween 16 = .ok (.iload_n 1, 1) := by decide +kernel
theorem dX12_isBetween_17 : decode cX12_isBetween 17 = .ok (.iload_n 3, 1) := by decide +kernel
theorem dX12_isBetween_18 : decode cX12_isBetween 18 = .ok (.invokestatic 244, 3) := by decide +kernel
theorem dX12_isBetween_21 : decode cX12_isBetween 21 = .ok (.isub, 1) := by decide +kernel
theorem dX12_isBetween_22 : decode cX12_isBetween 22 = .ok (.invokestatic 247, 3) := by decide +kernel
theorem dX12_isBetween_25 : decode cX12_isBetween 25 = .ok (.istore_n 2, 1) := by decide +kernel
theorem dX12_isBetween_26 : decode cX12_isBetween 26 = .ok (.iinc 3 1, 3) := by decide +kernel
theorem dX12_isBetween_29 : decode cX12_isBetween 29 = .ok (.goto (-25), 3) := by decide +kernel
theorem dX12_isBetween_32 : decode cX12_isBetween 32 = .ok (.iconst 1, 1) := by decide +kernel
theorem dX12_isBetween_33 : decode cX12_isBetween 33 = .ok (.istore_n 3, 1) := by decide +kernel
theorem dX12_isBetween_34 : decode cX12_isBetween 34 = .ok (.iconst 0, 1) := by decide +kernel
theorem dX12_isBetween_35 : decode cX12_isBetween 35 = .ok (.istore 4, 2) := by decide +kernel
theorem dX12_isBetween_37 : decode cX12_isBetween 37 = .ok (.iload 4, 2) := by decide +kernel
theorem dX12_isBetween_39 : decode cX12_isBetween 39 = .ok (.iconst 4, 1) := by decide +kernel
theorem dX12_isBetween_40 : decode cX12_isBetween 40 = .ok (.if_icmp .ge 47, 3) := by decide +kernel
theorem dX12_isBetween_43 : decode cX12_isBetween 43 = .ok (.iload_n 3, 1) := by decide +kernel
theorem dX12_isBetween_44 : decode cX12_isBetween 44 = .ok (.ifCond .eq 35, 3) := by decide +kernel
theorem dX12_isBetween_47 : decode cX12_isBetween 47 = .ok (.aload_n 0, 1) := by decide +kernel
theorem dX12_isBetween_48 : decode cX12_isBetween 48 = .ok (.getfield 45, 3) := by decide +kernel
theorem dX12_isBetween_51 : decode cX12_isBetween 51 = .ok (.iload 4, 2) := by decide +kernel
theorem dX12_isBetween_53 : decode cX12_isBetween 53 = .ok (.iaload, 1) := by decide +kernel
theorem dX12_isBetween_54 : decode cX12_isBetween 54 = .ok (.iload_n 1, 1) := by decide +kernel
theorem dX12_isBetween_55 : decode cX12_isBetween 55 = .ok (.iload 4, 2) := by decide +kernel
theorem dX12_isBetween_57 : decode cX12_isBetween 57 = .ok (.invokestatic 244, 3) := by decide +kernel
theorem dX12_isBetween_60 : decode cX12_isBetween 60 = .ok (.isub, 1) := by decide +kernel
theorem dX12_isBetween_61 : decode cX12_isBetween 61 = .ok (.iload_n 2, 1) := by decide +kernel
theorem dX12_isBetween_62 : decode cX12_isBetween 62 = .ok (.aload_n 0, 1) := by decide +kernel
theorem dX12_isBetween_63 : decode cX12_isBetween 63 = .ok (.getfield 45, 3) := by decide +kernel
theorem dX12_isBetween_66 : decode cX12_isBetween 66 = .ok (.iload 4, 2) := by decide +kernel
theorem dX12_isBetween_68 : decode cX12_isBetween 68 = .ok (.iaload, 1) := by decide +kernel
theorem dX12_isBetween_69 : decode cX12_isBetween 69 = .ok (.invokestatic 250, 3) := by decide +kernel
theorem dX12_isBetween_72 : decode cX12_isBetween 72 = .ok (.if_icmp .ne 7, 3) := by decide +kernel
theorem dX12_isBetween_75 : decode cX12_isBetween 75 = .ok (.iconst 1, 1) := by decide +kernel
theorem dX12_isBetween_76 : decode cX12_isBetween 76 = .ok (.goto 4, 3) := by decide +kernel
theorem dX12_isBetween_79 : decode cX12_isBetween 79 = .ok (.iconst 0, 1) := by decide +kernel
theorem dX12_isBetween_80 : decode cX12_isBetween 80 = .ok (.istore_n 3, 1) := by decide +kernel
theorem dX12_isBetween_81 : decode cX12_isBetween 81 = .ok (.iinc 4 1, 3) := by decide +kernel
theorem dX12_isBetween_84 : decode cX12_isBetween 84 = .ok (.goto (-47), 3) := by decide +kernel
theorem dX12_isBetween_87 : decode cX12_isBetween 87 = .ok (.iload_n 3, 1) := by decide +kernel
theorem dX12_isBetween_88 : decode cX12_isBetween 88 = .ok (.ireturn, 1) := by decide +kernel
theorem dX12_seatAll_0 : decode cX12_seatAll 0 = .ok (.aload_n 0, 1) := by decide +kernel
theorem dX12_seatAll_1 : decode cX12_seatAll 1 = .ok (.iconst 0, 1) := by decide +kernel
theorem dX12_seatAll_2 : decode cX12_seatAll 2 = .ok (.putfield 253, 3) := by decide +kernel
theorem dX12_seatAll_5 : decode cX12_seatAll 5 = .ok (.iconst 0, 1) := by decide +kernel
theorem dX12_seatAll_6 : decode cX12_seatAll 6 = .ok (.istore_n 3, 1) := by decide +kernel
theorem dX12_seatAll_7 : decode cX12_seatAll 7 = .ok (.iload_n 3, 1) := by decide +kernel
theorem dX12_seatAll_8 : decode cX12_seatAll 8 = .ok (.iconst 4, 1) := by decide +kernel
theorem dX12_seatAll_9 : decode cX12_seatAll 9 = .ok (.if_icmp .ge 46, 3) := by decide +kernel
theorem dX12_seatAll_12 : decode cX12_seatAll 12 = .ok (.iload_n 2, 1) := by decide +kernel
theorem dX12_seatAll_13 : decode cX12_seatAll 13 = .ok (.iload_n 3, 1) := by decide +kernel
theorem dX12_seatAll_14 : decode cX12_seatAll 14 = .ok (.iadd, 1) := by decide +kernel
theorem dX12_seatAll_15 : decode cX12_seatAll 15 = .ok (.iconst 4, 1) := by decide +kernel
theorem dX12_seatAll_16 : decode cX12_seatAll 16 = .ok (.irem, 1) := by decide +kernel
theorem dX12_seatAll_17 : decode cX12_seatAll 17 = .ok (.istore 4, 2) := by decide +kernel
theorem dX12_seatAll_19 : decode cX12_seatAll 19 = .ok (.iload_n 1, 1) := by decide +kernel
theorem dX12_seatAll_20 : decode cX12_seatAll 20 = .ok (.iload 4, 2) := by decide +kernel
theorem dX12_seatAll_22 : decode cX12_seatAll 22 = .ok (.invokestatic 244, 3) := by decide +kernel
theorem dX12_seatAll_25 : decode cX12_seatAll 25 = .ok (.ifCond .le 24, 3) := by decide +kernel
theorem dX12_seatAll_28 : decode cX12_seatAll 28 = .ok (.aload_n 0, 1) := by decide +kernel
theorem dX12_seatAll_29 : decode cX12_seatAll 29 = .ok (.getfield 60, 3) := by decide +kernel
theorem dX12_seatAll_32 : decode cX12_seatAll 32 = .ok (.aload_n 0, 1) := by decide +kernel
theorem dX12_seatAll_33 : decode cX12_seatAll 33 = .ok (.getfield 253, 3) := by decide +kernel
theorem dX12_seatAll_36 : decode cX12_seatAll 36 = .ok (.iload 4, 2) := by decide +kernel
theorem dX12_seatAll_38 : decode cX12_seatAll 38 = .ok (.iastore, 1) := by decide +kernel
theorem dX12_seatAll_39 : decode cX12_seatAll 39 = .ok (.aload_n 0, 1) := by decide +kernel
theorem dX12_seatAll_40 : decode cX12_seatAll 40 = .ok (.dup, 1) := by decide +kernel
theorem dX12_seatAll_41 : decode cX12_seatAll 41 = .ok (.getfield 253, 3) := by decide +kernel
theorem dX12_seatAll_44 : decode cX12_seatAll 44 = .ok (.iconst 1, 1) := by decide +kernel
theorem dX12_seatAll_45 : decode cX12_seatAll 45 = .ok (.iadd, 1) := by decide +kernel
theorem dX12_seatAll_46 : decode cX12_seatAll 46 = .ok (.putfield 253, 3) := by decide +kernel
theorem dX12_seatAll_49 : decode cX12_seatAll 49 = .ok (.iinc 3 1, 3) := by decide +kernel
theorem dX12_seatAll_52 : decode cX12_seatAll 52 = .ok (.goto (-45), 3) := by decide +kernel
theorem dX12_seatAll_55 : decode cX12_seatAll 55 = .ok (.return_, 1) := by decide +kernel
theorem dX12_leaderFrom_0 : decode cX12_leaderFrom 0 = .ok (.iconst 0, 1) := by decide +kernel
theorem dX12_leaderFrom_1 : decode cX12_leaderFrom 1 = .ok (.istore_n 3, 1) := by decide +kernel
theorem dX12_leaderFrom_2 : decode cX12_leaderFrom 2 = .ok (.iload_n 3, 1) := by decide +kernel
theorem dX12_leaderFrom_3 : decode cX12_leaderFrom 3 = .ok (.iconst 4, 1) := by decide +kernel
theorem dX12_leaderFrom_4 : decode cX12_leaderFrom 4 = .ok (.if_icmp .ge 27, 3) := by decide +kernel
theorem dX12_leaderFrom_7 : decode cX12_leaderFrom 7 = .ok (.iload_n 1, 1) := by decide +kernel
theorem dX12_leaderFrom_8 : decode cX12_leaderFrom 8 = .ok (.iload_n 2, 1) := by decide +kernel
theorem dX12_leaderFrom_9 : decode cX12_leaderFrom 9 = .ok (.iload_n 3, 1) := by decide +kernel
theorem dX12_leaderFrom_10 : decode cX12_leaderFrom 10 = .ok (.iadd, 1) := by decide +kernel
theorem dX12_leaderFrom_11 : decode cX12_leaderFrom 11 = .ok (.iconst 4, 1) := by decide +kernel
theorem dX12_leaderFrom_12 : decode cX12_leaderFrom 12 = .ok (.irem, 1) := by decide +kernel
theorem dX12_leaderFrom_13 : decode cX12_leaderFrom 13 = .ok (.invokestatic 244, 3) := by decide +kernel
theorem dX12_leaderFrom_16 : decode cX12_leaderFrom 16 = .ok (.ifCond .le 9, 3) := by decide +kernel
theorem dX12_leaderFrom_19 : decode cX12_leaderFrom 19 = .ok (.iload_n 2, 1) := by decide +kernel
theorem dX12_leaderFrom_20 : decode cX12_leaderFrom 20 = .ok (.iload_n 3, 1) := by decide +kernel
theorem dX12_leaderFrom_21 : decode cX12_leaderFrom 21 = .ok (.iadd, 1) := by decide +kernel
theorem dX12_leaderFrom_22 : decode cX12_leaderFrom 22 = .ok (.iconst 4, 1) := by decide +kernel
theorem dX12_leaderFrom_23 : decode cX12_leaderFrom 23 = .ok (.irem, 1) := by decide +kernel
theorem dX12_leaderFrom_24 : decode cX12_leaderFrom 24 = .ok (.ireturn, 1) := by decide +kernel
theorem dX12_leaderFrom_25 : decode cX12_leaderFrom 25 = .ok (.iinc 3 1, 3) := by decide +kernel
theorem dX12_leaderFrom_28 : decode cX12_leaderFrom 28 = .ok (.goto (-26), 3) := by decide +kernel
theorem dX12_leaderFrom_31 : decode cX12_leaderFrom 31 = .ok (.iconst (-1), 1) := by decide +kernel
theorem dX12_leaderFrom_32 : decode cX12_leaderFrom 32 = .ok (.ireturn, 1) := by decide +kernel
theorem dX12_handLeft_0 : decode cX12_handLeft 0 = .ok (.aload_n 0, 1) := by decide +kernel
theorem dX12_handLeft_1 : decode cX12_handLeft 1 = .ok (.iconst 0, 1) := by decide +kernel
theorem dX12_handLeft_2 : decode cX12_handLeft 2 = .ok (.putfield 117, 3) := by decide +kernel
theorem dX12_handLeft_5 : decode cX12_handLeft 5 = .ok (.iconst 0, 1) := by decide +kernel
theorem dX12_handLeft_6 : decode cX12_handLeft 6 = .ok (.istore_n 2, 1) := by decide +kernel
theorem dX12_handLeft_7 : decode cX12_handLeft 7 = .ok (.iload_n 2, 1) := by decide +kernel
theorem dX12_handLeft_8 : decode cX12_handLeft 8 = .ok (.iconst 4, 1) := by decide +kernel
theorem dX12_handLeft_9 : decode cX12_handLeft 9 = .ok (.if_icmp .ge 54, 3) := by decide +kernel
theorem dX12_handLeft_12 : decode cX12_handLeft 12 = .ok (.aload_n 0, 1) := by decide +kernel
theorem dX12_handLeft_13 : decode cX12_handLeft 13 = .ok (.getfield 256, 3) := by decide +kernel
theorem dX12_handLeft_16 : decode cX12_handLeft 16 = .ok (.iconst 4, 1) := by decide +kernel
theorem dX12_handLeft_17 : decode cX12_handLeft 17 = .ok (.iload_n 1, 1) := by decide +kernel
theorem dX12_handLeft_18 : decode cX12_handLeft 18 = .ok (.imul, 1) := by decide +kernel
theorem dX12_handLeft_19 : decode cX12_handLeft 19 = .ok (.iload_n 2, 1) := by decide +kernel
theorem dX12_handLeft_20 : decode cX12_handLeft 20 = .ok (.iadd, 1) := by decide +kernel
theorem dX12_handLeft_21 : decode cX12_handLeft 21 = .ok (.ishr, 1) := by decide +kernel
theorem dX12_handLeft_22 : decode cX12_handLeft 22 = .ok (.iconst 1, 1) := by decide +kernel
theorem dX12_handLeft_23 : decode cX12_handLeft 23 = .ok (.iand, 1) := by decide +kernel
theorem dX12_handLeft_24 : decode cX12_handLeft 24 = .ok (.iconst 1, 1) := by decide +kernel
theorem dX12_handLeft_25 : decode cX12_handLeft 25 = .ok (.if_icmp .ne 32, 3) := by decide +kernel
theorem dX12_handLeft_28 : decode cX12_handLeft 28 = .ok (.aload_n 0, 1) := by decide +kernel
theorem dX12_handLeft_29 : decode cX12_handLeft 29 = .ok (.getfield 36, 3) := by decide +kernel
theorem dX12_handLeft_32 : decode cX12_handLeft 32 = .ok (.aload_n 0, 1) := by decide +kernel
theorem dX12_handLeft_33 : decode cX12_handLeft 33 = .ok (.getfield 117, 3) := by decide +kernel
theorem dX12_handLeft_36 : decode cX12_handLeft 36 = .ok (.aload_n 0, 1) := by decide +kernel
theorem dX12_handLeft_37 : decode cX12_handLeft 37 = .ok (.getfield 42, 3) := by decide +kernel
theorem dX12_handLeft_40 : decode cX12_handLeft 40 = .ok (.iconst 4, 1) := by decide +kernel
theorem dX12_handLeft_41 : decode cX12_handLeft 41 = .ok (.iload_n 1, 1) := by decide +kernel
theorem dX12_handLeft_42 : decode cX12_handLeft 42 = .ok (.imul, 1) := by decide +kernel
theorem dX12_handLeft_43 : decode cX12_handLeft 43 = .ok (.iload_n 2, 1) := by decide +kernel
theorem dX12_handLeft_44 : decode cX12_handLeft 44 = .ok (.iadd, 1) := by decide +kernel
theorem dX12_handLeft_45 : decode cX12_handLeft 45 = .ok (.iaload, 1) := by decide +kernel
theorem dX12_handLeft_46 : decode cX12_handLeft 46 = .ok (.iastore, 1) := by decide +kernel
theorem dX12_handLeft_47 : decode cX12_handLeft 47 = .ok (.aload_n 0, 1) := by decide +kernel
theorem dX12_handLeft_48 : decode cX12_handLeft 48 = .ok (.dup, 1) := by decide +kernel
theorem dX12_handLeft_49 : decode cX12_handLeft 49 = .ok (.getfield 117, 3) := by decide +kernel
theorem dX12_handLeft_52 : decode cX12_handLeft 52 = .ok (.iconst 1, 1) := by decide +kernel
theorem dX12_handLeft_53 : decode cX12_handLeft 53 = .ok (.iadd, 1) := by decide +kernel
theorem dX12_handLeft_54 : decode cX12_handLeft 54 = .ok (.putfield 117, 3) := by decide +kernel
theorem dX12_handLeft_57 : decode cX12_handLeft 57 = .ok (.iinc 2 1, 3) := by decide +kernel
theorem dX12_handLeft_60 : decode cX12_handLeft 60 = .ok (.goto (-53), 3) := by decide +kernel
theorem dX12_handLeft_63 : decode cX12_handLeft 63 = .ok (.return_, 1) := by decide +kernel
theorem dX12_nextPlace_0 : decode cX12_nextPlace 0 = .ok (.aload_n 0, 1) := by decide +kernel
theorem dX12_nextPlace_1 : decode cX12_nextPlace 1 = .ok (.getfield 60, 3) := by decide +kernel
theorem dX12_nextPlace_4 : decode cX12_nextPlace 4 = .ok (.iload_n 2, 1) := by decide +kernel
theorem dX12_nextPlace_5 : decode cX12_nextPlace 5 = .ok (.iaload, 1) := by decide +kernel
theorem dX12_nextPlace_6 : decode cX12_nextPlace 6 = .ok (.istore_n 3, 1) := by decide +kernel
theorem dX12_nextPlace_7 : decode cX12_nextPlace 7 = .ok (.aload_n 0, 1) := by decide +kernel
theorem dX12_nextPlace_8 : decode cX12_nextPlace 8 = .ok (.iload_n 3, 1) := by decide +kernel
theorem dX12_nextPlace_9 : decode cX12_nextPlace 9 = .ok (.invokevirtual 259, 3) := by decide +kernel
theorem dX12_nextPlace_12 : decode cX12_nextPlace 12 = .ok (.aload_n 0, 1) := by decide +kernel
theorem dX12_nextPlace_13 : decode cX12_nextPlace 13 = .ok (.getfield 63, 3) := by decide +kernel
theorem dX12_nextPlace_16 : decode cX12_nextPlace 16 = .ok (.iload_n 2, 1) := by decide +kernel
theorem dX12_nextPlace_17 : decode cX12_nextPlace 17 = .ok (.iaload, 1) := by decide +kernel
theorem dX12_nextPlace_18 : decode cX12_nextPlace 18 = .ok (.istore 4, 2) := by decide +kernel
theorem dX12_nextPlace_20 : decode cX12_nextPlace 20 = .ok (.iload 4, 2) := by decide +kernel
theorem dX12_nextPlace_22 : decode cX12_nextPlace 22 = .ok (.iconst 4, 1) := by decide +kernel
theorem dX12_nextPlace_23 : decode cX12_nextPlace 23 = .ok (.if_icmp .ge 44, 3) := by decide +kernel
theorem dX12_nextPlace_26 : decode cX12_nextPlace 26 = .ok (.aload_n 0, 1) := by decide +kernel
theorem dX12_nextPlace_27 : decode cX12_nextPlace 27 = .ok (.getfield 256, 3) := by decide +kernel
theorem dX12_nextPlace_30 : decode cX12_nextPlace 30 = .ok (.iconst 4, 1) := by decide +kernel
theorem dX12_nextPlace_31 : decode cX12_nextPlace 31 = .ok (.iload_n 3, 1) := by decide +kernel
theorem dX12_nextPlace_32 : decode cX12_nextPlace 32 = .ok (.imul, 1) := by decide +kernel
theorem dX12_nextPlace_33 : decode cX12_nextPlace 33 = .ok (.iload 4, 2) := by decide +kernel
theorem dX12_nextPlace_35 : decode cX12_nextPlace 35 = .ok (.iadd, 1) := by decide +kernel
theorem dX12_nextPlace_36 : decode cX12_nextPlace 36 = .ok (.ishr, 1) := by decide +kernel
theorem dX12_nextPlace_37 : decode cX12_nextPlace 37 = .ok (.iconst 1, 1) := by decide +kernel
theorem dX12_nextPlace_38 : decode cX12_nextPlace 38 = .ok (.iand, 1) := by decide +kernel
theorem dX12_nextPlace_39 : decode cX12_nextPlace 39 = .ok (.ifCond .eq 22, 3) := by decide +kernel
theorem dX12_nextPlace_42 : decode cX12_nextPlace 42 = .ok (.aload_n 0, 1) := by decide +kernel
theorem dX12_nextPlace_43 : decode cX12_nextPlace 43 = .ok (.iload_n 1, 1) := by decide +kernel
theorem dX12_nextPlace_44 : decode cX12_nextPlace 44 = .ok (.aload_n 0, 1) := by decide +kernel
theorem dX12_nextPlace_45 : decode cX12_nextPlace 45 = .ok (.getfield 42, 3) := by decide +kernel
theorem dX12_nextPlace_48 : decode cX12_nextPlace 48 = .ok (.iconst 4, 1) := by decide +kernel
theorem dX12_nextPlace_49 : decode cX12_nextPlace 49 = .ok (.iload_n 3, 1) := by decide +kernel
theorem dX12_nextPlace_50 : decode cX12_nextPlace 50 = .ok (.imul, 1) := by decide +kernel
theorem dX12_nextPlace_51 : decode cX12_nextPlace 51 = .ok (.iload 4, 2) := by decide +kernel
theorem dX12_nextPlace_53 : decode cX12_nextPlace 53 = .ok (.iadd, 1) := by decide +kernel
theorem dX12_nextPlace_54 : decode cX12_nextPlace 54 = .ok (.iaload, 1) := by decide +kernel
theorem dX12_nextPlace_55 : decode cX12_nextPlace 55 = .ok (.invokevirtual 208, 3) := by decide +kernel
theorem dX12_nextPlace_58 : decode cX12_nextPlace 58 = .ok (.ifCond .le 9, 3) := by decide +kernel
theorem dX12_nextPlace_61 : decode cX12_nextPlace 61 = .ok (.iinc 4 1, 3) := by decide +kernel
theorem dX12_nextPlace_64 : decode cX12_nextPlace 64 = .ok (.goto (-44), 3) := by decide +kernel
theorem dX12_nextPlace_67 : decode cX12_nextPlace 67 = .ok (.iload 4, 2) := by decide +kernel
theorem dX12_nextPlace_69 : decode cX12_nextPlace 69 = .ok (.ireturn, 1) := by decide +kernel
theorem dX12_rate_0 : decode cX12_rate 0 = .ok (.aload_n 0, 1) := by decide +kernel
theorem dX12_rate_1 : decode cX12_rate 1 = .ok (.getfield 60, 3) := by decide +kernel
theorem dX12_rate_4 : decode cX12_rate 4 = .ok (.iload_n 1, 1) := by decide +kernel
theorem dX12_rate_5 : decode cX12_rate 5 = .ok (.iaload, 1) := by decide +kernel
theorem dX12_rate_6 : decode cX12_rate 6 = .ok (.iconst 2, 1) := by decide +kernel
theorem dX12_rate_7 : decode cX12_rate 7 = .ok (.irem, 1) := by decide +kernel
theorem dX12_rate_8 : decode cX12_rate 8 = .ok (.aload_n 0, 1) := by decide +kernel
theorem dX12_rate_9 : decode cX12_rate 9 = .ok (.getfield 262, 3) := by decide +kernel
theorem dX12_rate_12 : decode cX12_rate 12 = .ok (.if_icmp .ne 7, 3) := by decide +kernel
theorem dX12_rate_15 : decode cX12_rate 15 = .ok (.iconst 1, 1) := by decide +kernel
theorem dX12_rate_16 : decode cX12_rate 16 = .ok (.goto 4, 3) := by decide +kernel
theorem dX12_rate_19 : decode cX12_rate 19 = .ok (.iconst 0, 1) := by decide +kernel
theorem dX12_rate_20 : decode cX12_rate 20 = .ok (.istore 4, 2) := by decide +kernel
theorem dX12_rate_22 : decode cX12_rate 22 = .ok (.aload_n 0, 1) := by decide +kernel
theorem dX12_rate_23 : decode cX12_rate 23 = .ok (.getfield 69, 3) := by decide +kernel
theorem dX12_rate_26 : decode cX12_rate 26 = .ok (.iload_n 1, 1) := by decide +kernel
theorem dX12_rate_27 : decode cX12_rate 27 = .ok (.baload, 1) := by decide +kernel
theorem dX12_rate_28 : decode cX12_rate 28 = .ok (.ifCond .eq 31, 3) := by decide +kernel
theorem dX12_rate_31 : decode cX12_rate 31 = .ok (.iload 4, 2) := by decide +kernel
theorem dX12_rate_33 : decode cX12_rate 33 = .ok (.ifCond .eq 16, 3) := by decide +kernel
theorem dX12_rate_36 : decode cX12_rate 36 = .ok (.iload_n 2, 1) := by decide +kernel
theorem dX12_rate_37 : decode cX12_rate 37 = .ok (.aload_n 0, 1) := by decide +kernel
theorem dX12_rate_38 : decode cX12_rate 38 = .ok (.getfield 72, 3) := by decide +kernel
theorem dX12_rate_41 : decode cX12_rate 41 = .ok (.iload_n 1, 1) := by decide +kernel
theorem dX12_rate_42 : decode cX12_rate 42 = .ok (.iaload, 1) := by decide +kernel
theorem dX12_rate_43 : decode cX12_rate 43 = .ok (.if_icmp .le 20, 3) := by decide +kernel
theorem dX12_rate_46 : decode cX12_rate 46 = .ok (.goto 13, 3) := by decide +kernel
theorem dX12_rate_49 : decode cX12_rate 49 = .ok (.iload_n 2, 1) := by decide +kernel
theorem dX12_rate_50 : decode cX12_rate 50 = .ok (.aload_n 0, 1) := by decide +kernel
theorem dX12_rate_51 : decode cX12_rate 51 = .ok (.getfield 72, 3) := by decide +kernel
theorem dX12_rate_54 : decode cX12_rate 54 = .ok (.iload_n 1, 1) := by decide +kernel
theorem dX12_rate_55 : decode cX12_rate 55 = .ok (.iaload, 1) := by decide +kernel
theorem dX12_rate_56 : decode cX12_rate 56 = .ok (.if_icmp .ge 7, 3) := by decide +kernel
theorem dX12_rate_59 : decode cX12_rate 59 = .ok (.iconst 1, 1) := by decide +kernel
theorem dX12_rate_60 : decode cX12_rate 60 = .ok (.goto 4, 3) := by decide +kernel
theorem dX12_rate_63 : decode cX12_rate 63 = .ok (.iconst 0, 1) := by decide +kernel
theorem dX12_rate_64 : decode cX12_rate 64 = .ok (.istore 5, 2) := by decide +kernel
theorem dX12_rate_66 : decode cX12_rate 66 = .ok (.iload 4, 2) := by decide +kernel
theorem dX12_rate_68 : decode cX12_rate 68 = .ok (.ifCond .eq 27, 3) := by decide +kernel
theorem dX12_rate_71 : decode cX12_rate 71 = .ok (.aload_n 0, 1) := by decide +kernel
theorem dX12_rate_72 : decode cX12_rate 72 = .ok (.getfield 75, 3) := by decide +kernel
theorem dX12_rate_75 : decode cX12_rate 75 = .ok (.iload_n 1, 1) := by decide +kernel
theorem dX12_rate_76 : decode cX12_rate 76 = .ok (.iload 5, 2) := by decide +kernel
theorem dX12_rate_78 : decode cX12_rate 78 = .ok (.ifCond .eq 7, 3) := by decide +kernel
theorem dX12_rate_81 : decode cX12_rate 81 = .ok (.iload_n 3, 1) := by decide +kernel
theorem dX12_rate_82 : decode cX12_rate 82 = .ok (.goto 9, 3) := by decide +kernel
theorem dX12_rate_85 : decode cX12_rate 85 = .ok (.aload_n 0, 1) := by decide +kernel
theorem dX12_rate_86 : decode cX12_rate 86 = .ok (.getfield 75, 3) := by decide +kernel
theorem dX12_rate_89 : decode cX12_rate 89 = .ok (.iload_n 1, 1) := by decide +kernel
theorem dX12_rate_90 : decode cX12_rate 90 = .ok (.iaload, 1) := by decide +kernel
theorem dX12_rate_91 : decode cX12_rate 91 = .ok (.iastore, 1) := by decide +kernel
theorem dX12_rate_92 : decode cX12_rate 92 = .ok (.goto 32, 3) := by decide +kernel
theorem dX12_rate_95 : decode cX12_rate 95 = .ok (.aload_n 0, 1) := by decide +kernel
theorem dX12_rate_96 : decode cX12_rate 96 = .ok (.getfield 75, 3) := by decide +kernel
theorem dX12_rate_99 : decode cX12_rate 99 = .ok (.iload_n 1, 1) := by decide +kernel
theorem dX12_rate_100 : decode cX12_rate 100 = .ok (.aload_n 0, 1) := by decide +kernel
theorem dX12_rate_101 : decode cX12_rate 101 = .ok (.getfield 69, 3) := by decide +kernel
theorem dX12_rate_104 : decode cX12_rate 104 = .ok (.iload_n 1, 1) := by decide +kernel
theorem dX12_rate_105 : decode cX12_rate 105 = .ok (.baload, 1) := by decide +kernel
theorem dX12_rate_106 : decode cX12_rate 106 = .ok (.ifCond .eq 16, 3) := by decide +kernel
theorem dX12_rate_109 : decode cX12_rate 109 = .ok (.aload_n 0, 1) := by decide +kernel
theorem dX12_rate_110 : decode cX12_rate 110 = .ok (.getfield 75, 3) := by decide +kernel
theorem dX12_rate_113 : decode cX12_rate 113 = .ok (.iload_n 1, 1) := by decide +kernel
theorem dX12_rate_114 : decode cX12_rate 114 = .ok (.iaload, 1) := by decide +kernel
theorem dX12_rate_115 : decode cX12_rate 115 = .ok (.iload_n 3, 1) := by decide +kernel
theorem dX12_rate_116 : decode cX12_rate 116 = .ok (.invokestatic 250, 3) := by decide +kernel
theorem dX12_rate_119 : decode cX12_rate 119 = .ok (.goto 4, 3) := by decide +kernel
theorem dX12_rate_122 : decode cX12_rate 122 = .ok (.iload_n 3, 1) := by decide +kernel
theorem dX12_rate_123 : decode cX12_rate 123 = .ok (.iastore, 1) := by decide +kernel
theorem dX12_rate_124 : decode cX12_rate 124 = .ok (.aload_n 0, 1) := by decide +kernel
theorem dX12_rate_125 : decode cX12_rate 125 = .ok (.getfield 72, 3) := by decide +kernel
theorem dX12_rate_128 : decode cX12_rate 128 = .ok (.iload_n 1, 1) := by decide +kernel
theorem dX12_rate_129 : decode cX12_rate 129 = .ok (.iload 5, 2) := by decide +kernel
theorem dX12_rate_131 : decode cX12_rate 131 = .ok (.ifCond .eq 7, 3) := by decide +kernel
theorem dX12_rate_134 : decode cX12_rate 134 = .ok (.iload_n 2, 1) := by decide +kernel
theorem dX12_rate_135 : decode cX12_rate 135 = .ok (.goto 9, 3) := by decide +kernel
theorem dX12_rate_138 : decode cX12_rate 138 = .ok (.aload_n 0, 1) := by decide +kernel
theorem dX12_rate_139 : decode cX12_rate 139 = .ok (.getfield 72, 3) := by decide +kernel
theorem dX12_rate_142 : decode cX12_rate 142 = .ok (.iload_n 1, 1) := by decide +kernel
theorem dX12_rate_143 : decode cX12_rate 143 = .ok (.iaload, 1) := by decide +kernel
theorem dX12_rate_144 : decode cX12_rate 144 = .ok (.iastore, 1) := by decide +kernel
theorem dX12_rate_145 : decode cX12_rate 145 = .ok (.aload_n 0, 1) := by decide +kernel
theorem dX12_rate_146 : decode cX12_rate 146 = .ok (.iload 5, 2) := by decide +kernel
theorem dX12_rate_148 : decode cX12_rate 148 = .ok (.ifCond .eq 20, 3) := by decide +kernel
theorem dX12_rate_151 : decode cX12_rate 151 = .ok (.iload_n 1, 1) := by decide +kernel
theorem dX12_rate_152 : decode cX12_rate 152 = .ok (.aload_n 0, 1) := by decide +kernel
theorem dX12_rate_153 : decode cX12_rate 153 = .ok (.getfield 265, 3) := by decide +kernel
theorem dX12_rate_156 : decode cX12_rate 156 = .ok (.if_icmp .ne 12, 3) := by decide +kernel
theorem dX12_rate_159 : decode cX12_rate 159 = .ok (.aload_n 0, 1) := by decide +kernel
theorem dX12_rate_160 : decode cX12_rate 160 = .ok (.getfield 66, 3) := by decide +kernel
theorem dX12_rate_163 : decode cX12_rate 163 = .ok (.iload_n 1, 1) := by decide +kernel
theorem dX12_rate_164 : decode cX12_rate 164 = .ok (.iaload, 1) := by decide +kernel
theorem dX12_rate_165 : decode cX12_rate 165 = .ok (.goto 7, 3) := by decide +kernel
theorem dX12_rate_168 : decode cX12_rate 168 = .ok (.aload_n 0, 1) := by decide +kernel
theorem dX12_rate_169 : decode cX12_rate 169 = .ok (.getfield 268, 3) := by decide +kernel
theorem dX12_rate_172 : decode cX12_rate 172 = .ok (.putfield 268, 3) := by decide +kernel
theorem dX12_rate_175 : decode cX12_rate 175 = .ok (.aload_n 0, 1) := by decide +kernel
theorem dX12_rate_176 : decode cX12_rate 176 = .ok (.getfield 69, 3) := by decide +kernel
theorem dX12_rate_179 : decode cX12_rate 179 = .ok (.iload_n 1, 1) := by decide +kernel
theorem dX12_rate_180 : decode cX12_rate 180 = .ok (.iconst 1, 1) := by decide +kernel
theorem dX12_rate_181 : decode cX12_rate 181 = .ok (.bastore, 1) := by decide +kernel
theorem dX12_rate_182 : decode cX12_rate 182 = .ok (.return_, 1) := by decide +kernel
theorem dX12_goThrough_0 : decode cX12_goThrough 0 = .ok (.aload_n 0, 1) := by decide +kernel
theorem dX12_goThrough_1 : decode cX12_goThrough 1 = .ok (.iload_n 2, 1) := by decide +kernel
theorem dX12_goThrough_2 : decode cX12_goThrough 2 = .ok (.putfield 265, 3) := by decide +kernel
theorem dX12_goThrough_5 : decode cX12_goThrough 5 = .ok (.iload_n 2, 1) := by decide +kernel
theorem dX12_goThrough_6 : decode cX12_goThrough 6 = .ok (.istore_n 3, 1) := by decide +kernel
theorem dX12_goThrough_7 : decode cX12_goThrough 7 = .ok (.aload_n 0, 1) := by decide +kernel
theorem dX12_goThrough_8 : decode cX12_goThrough 8 = .ok (.getfield 69, 3) := by decide +kernel
theorem dX12_goThrough_11 : decode cX12_goThrough 11 = .ok (.iload_n 3, 1) := by decide +kernel
theorem dX12_goThrough_12 : decode cX12_goThrough 12 = .ok (.iconst 0, 1) := by decide +kernel
theorem dX12_goThrough_13 : decode cX12_goThrough 13 = .ok (.bastore, 1) := by decide +kernel
theorem dX12_goThrough_14 : decode cX12_goThrough 14 = .ok (.aload_n 0, 1) := by decide +kernel
theorem dX12_goThrough_15 : decode cX12_goThrough 15 = .ok (.getfield 63, 3) := by decide +kernel
theorem dX12_goThrough_18 : decode cX12_goThrough 18 = .ok (.iload_n 3, 1) := by decide +kernel
theorem dX12_goThrough_19 : decode cX12_goThrough 19 = .ok (.iconst 0, 1) := by decide +kernel
theorem dX12_goThrough_20 : decode cX12_goThrough 20 = .ok (.iastore, 1) := by decide +kernel
theorem dX12_goThrough_21 : decode cX12_goThrough 21 = .ok (.iconst 1, 1) := by decide +kernel
theorem dX12_goThrough_22 : decode cX12_goThrough 22 = .ok (.istore 4, 2) := by decide +kernel
theorem dX12_goThrough_24 : decode cX12_goThrough 24 = .ok (.iload 4, 2) := by decide +kernel
theorem dX12_goThrough_26 : decode cX12_goThrough 26 = .ok (.ifCond .eq 282, 3) := by decide +kernel
theorem dX12_goThrough_29 : decode cX12_goThrough 29 = .ok (.aload_n 0, 1) := by decide +kernel
theorem dX12_goThrough_30 : decode cX12_goThrough 30 = .ok (.iload_n 1, 1) := by decide +kernel
theorem dX12_goThrough_31 : decode cX12_goThrough 31 = .ok (.iload_n 3, 1) := by decide +kernel
theorem dX12_goThrough_32 : decode cX12_goThrough 32 = .ok (.invokevirtual 271, 3) := by decide +kernel
theorem dX12_goThrough_35 : decode cX12_goThrough 35 = .ok (.istore 5, 2) := by decide +kernel
theorem dX12_goThrough_37 : decode cX12_goThrough 37 = .ok (.iload 5, 2) := by decide +kernel
theorem dX12_goThrough_39 : decode cX12_goThrough 39 = .ok (.iconst 4, 1) := by decide +kernel
theorem dX12_goThrough_40 : decode cX12_goThrough 40 = .ok (.if_icmp .ge 221, 3) := by decide +kernel
theorem dX12_goThrough_43 : decode cX12_goThrough 43 = .ok (.aload_n 0, 1) := by decide +kernel
theorem dX12_goThrough_44 : decode cX12_goThrough 44 = .ok (.getfield 60, 3) := by decide +kernel
theorem dX12_goThrough_47 : decode cX12_goThrough 47 = .ok (.iload_n 3, 1) := by decide +kernel
theorem dX12_goThrough_48 : decode cX12_goThrough 48 = .ok (.iaload, 1) := by decide +kernel
theorem dX12_goThrough_49 : decode cX12_goThrough 49 = .ok (.istore 6, 2) := by decide +kernel
theorem dX12_goThrough_51 : decode cX12_goThrough 51 = .ok (.aload_n 0, 1) := by decide +kernel
theorem dX12_goThrough_52 : decode cX12_goThrough 52 = .ok (.getfield 66, 3) := by decide +kernel
theorem dX12_goThrough_55 : decode cX12_goThrough 55 = .ok (.iload_n 3, 1) := by decide +kernel
theorem dX12_goThrough_56 : decode cX12_goThrough 56 = .ok (.iload 5, 2) := by decide +kernel
theorem dX12_goThrough_58 : decode cX12_goThrough 58 = .ok (.iastore, 1) := by decide +kernel
theorem dX12_goThrough_59 : decode cX12_goThrough 59 = .ok (.aload_n 0, 1) := by decide +kernel
theorem dX12_goThrough_60 : decode cX12_goThrough 60 = .ok (.getfield 63, 3) := by decide +kernel
theorem dX12_goThrough_63 : decode cX12_goThrough 63 = .ok (.iload_n 3, 1) := by decide +kernel
theorem dX12_goThrough_64 : decode cX12_goThrough 64 = .ok (.iload 5, 2) := by decide +kernel
theorem dX12_goThrough_66 : decode cX12_goThrough 66 = .ok (.iconst 1, 1) := by decide +kernel
theorem dX12_goThrough_67 : decode cX12_goThrough 67 = .ok (.iadd, 1) := by decide +kernel
theorem dX12_goThrough_68 : decode cX12_goThrough 68 = .ok (.iastore, 1) := by decide +kernel
theorem dX12_goThrough_69 : decode cX12_goThrough 69 = .ok (.aload_n 0, 1) := by decide +kernel
theorem dX12_goThrough_70 : decode cX12_goThrough 70 = .ok (.dup, 1) := by decide +kernel
theorem dX12_goThrough_71 : decode cX12_goThrough 71 = .ok (.getfield 256, 3) := by decide +kernel
theorem dX12_goThrough_74 : decode cX12_goThrough 74 = .ok (.iconst 1, 1) := by decide +kernel
theorem dX12_goThrough_75 : decode cX12_goThrough 75 = .ok (.iconst 4, 1) := by decide +kernel
theorem dX12_goThrough_76 : decode cX12_goThrough 76 = .ok (.iload 6, 2) := by decide +kernel
theorem dX12_goThrough_78 : decode cX12_goThrough 78 = .ok (.imul, 1) := by decide +kernel
theorem dX12_goThrough_79 : decode cX12_goThrough 79 = .ok (.iload 5, 2) := by decide +kernel
theorem dX12_goThrough_81 : decode cX12_goThrough 81 = .ok (.iadd, 1) := by decide +kernel
theorem dX12_goThrough_82 : decode cX12_goThrough 82 = .ok (.ishl, 1) := by decide +kernel
theorem dX12_goThrough_83 : decode cX12_goThrough 83 = .ok (.iconst (-1), 1) := by decide +kernel
theorem dX12_goThrough_84 : decode cX12_goThrough 84 = .ok (.ixor, 1) := by decide +kernel
theorem dX12_goThrough_85 : decode cX12_goThrough 85 = .ok (.iand, 1) := by decide +kernel
theorem dX12_goThrough_86 : decode cX12_goThrough 86 = .ok (.putfield 256, 3) := by decide +kernel
theorem dX12_goThrough_89 : decode cX12_goThrough 89 = .ok (.aload_n 0, 1) := by decide +kernel
theorem dX12_goThrough_90 : decode cX12_goThrough 90 = .ok (.getfield 39, 3) := by decide +kernel
theorem dX12_goThrough_93 : decode cX12_goThrough 93 = .ok (.aload_n 0, 1) := by decide +kernel
theorem dX12_goThrough_94 : decode cX12_goThrough 94 = .ok (.getfield 127, 3) := by decide +kernel
theorem dX12_goThrough_97 : decode cX12_goThrough 97 = .ok (.aload_n 0, 1) := by decide +kernel
theorem dX12_goThrough_98 : decode cX12_goThrough 98 = .ok (.getfield 42, 3) := by decide +kernel
theorem dX12_goThrough_101 : decode cX12_goThrough 101 = .ok (.iconst 4, 1) := by decide +kernel
theorem dX12_goThrough_102 : decode cX12_goThrough 102 = .ok (.iload 6, 2) := by decide +kernel
theorem dX12_goThrough_104 : decode cX12_goThrough 104 = .ok (.imul, 1) := by decide +kernel
theorem dX12_goThrough_105 : decode cX12_goThrough 105 = .ok (.iload 5, 2) := by decide +kernel
theorem dX12_goThrough_107 : decode cX12_goThrough 107 = .ok (.iadd, 1) := by decide +kernel
theorem dX12_goThrough_108 : decode cX12_goThrough 108 = .ok (.iaload, 1) := by decide +kernel
theorem dX12_goThrough_109 : decode cX12_goThrough 109 = .ok (.iastore, 1) := by decide +kernel
theorem dX12_goThrough_110 : decode cX12_goThrough 110 = .ok (.aload_n 0, 1) := by decide +kernel
theorem dX12_goThrough_111 : decode cX12_goThrough 111 = .ok (.dup, 1) := by decide +kernel
theorem dX12_goThrough_112 : decode cX12_goThrough 112 = .ok (.getfield 127, 3) := by decide +kernel
theorem dX12_goThrough_115 : decode cX12_goThrough 115 = .ok (.iconst 1, 1) := by decide +kernel
theorem dX12_goThrough_116 : decode cX12_goThrough 116 = .ok (.iadd, 1) := by decide +kernel
theorem dX12_goThrough_117 : decode cX12_goThrough 117 = .ok (.putfield 127, 3) := by decide +kernel
theorem dX12_goThrough_120 : decode cX12_goThrough 120 = .ok (.iload_n 3, 1) := by decide +kernel
theorem dX12_goThrough_121 : decode cX12_goThrough 121 = .ok (.iconst 1, 1) := by decide +kernel
theorem dX12_goThrough_122 : decode cX12_goThrough 122 = .ok (.iadd, 1) := by decide +kernel
theorem dX12_goThrough_123 : decode cX12_goThrough 123 = .ok (.aload_n 0, 1) := by decide +kernel
theorem dX12_goThrough_124 : decode cX12_goThrough 124 = .ok (.getfield 253, 3) := by decide +kernel
theorem dX12_goThrough_127 : decode cX12_goThrough 127 = .ok (.if_icmp .ge 23, 3) := by decide +kernel
theorem dX12_goThrough_130 : decode cX12_goThrough 130 = .ok (.iinc 3 1, 3) := by decide +kernel
theorem dX12_goThrough_133 : decode cX12_goThrough 133 = .ok (.aload_n 0, 1) := by decide +kernel
theorem dX12_goThrough_134 : decode cX12_goThrough 134 = .ok (.getfield 69, 3) := by decide +kernel
theorem dX12_goThrough_137 : decode cX12_goThrough 137 = .ok (.iload_n 3, 1) := by decide +kernel
theorem dX12_goThrough_138 : decode cX12_goThrough 138 = .ok (.iconst 0, 1) := by decide +kernel
theorem dX12_goThrough_139 : decode cX12_goThrough 139 = .ok (.bastore, 1) := by decide +kernel
theorem dX12_goThrough_140 : decode cX12_goThrough 140 = .ok (.aload_n 0, 1) := by decide +kernel
theorem dX12_goThrough_141 : decode cX12_goThrough 141 = .ok (.getfield 63, 3) := by decide +kernel
theorem dX12_goThrough_144 : decode cX12_goThrough 144 = .ok (.iload_n 3, 1) := by decide +kernel
theorem dX12_goThrough_145 : decode cX12_goThrough 145 = .ok (.iconst 0, 1) := by decide +kernel
theorem dX12_goThrough_146 : decode cX12_goThrough 146 = .ok (.iastore, 1) := by decide +kernel
theorem dX12_goThrough_147 : decode cX12_goThrough 147 = .ok (.goto (-123), 3) := by decide +kernel
theorem dX12_goThrough_150 : decode cX12_goThrough 150 = .ok (.aload_n 0, 1) := by decide +kernel
theorem dX12_goThrough_151 : decode cX12_goThrough 151 = .ok (.iload_n 1, 1) := by decide +kernel
theorem dX12_goThrough_152 : decode cX12_goThrough 152 = .ok (.invokevirtual 220, 3) := by decide +kernel
theorem dX12_goThrough_155 : decode cX12_goThrough 155 = .ok (.istore 7, 2) := by decide +kernel
theorem dX12_goThrough_157 : decode cX12_goThrough 157 = .ok (.aload_n 0, 1) := by decide +kernel
theorem dX12_goThrough_158 : decode cX12_goThrough 158 = .ok (.getfield 60, 3) := by decide +kernel
theorem dX12_goThrough_161 : decode cX12_goThrough 161 = .ok (.iload 7, 2) := by decide +kernel
theorem dX12_goThrough_163 : decode cX12_goThrough 163 = .ok (.iaload, 1) := by decide +kernel
theorem dX12_goThrough_164 : decode cX12_goThrough 164 = .ok (.iconst 2, 1) := by decide +kernel
theorem dX12_goThrough_165 : decode cX12_goThrough 165 = .ok (.irem, 1) := by decide +kernel
theorem dX12_goThrough_166 : decode cX12_goThrough 166 = .ok (.aload_n 0, 1) := by decide +kernel
theorem dX12_goThrough_167 : decode cX12_goThrough 167 = .ok (.getfield 262, 3) := by decide +kernel
theorem dX12_goThrough_170 : decode cX12_goThrough 170 = .ok (.if_icmp .ne 7, 3) := by decide +kernel
theorem dX12_goThrough_173 : decode cX12_goThrough 173 = .ok (.iconst 1, 1) := by decide +kernel
theorem dX12_goThrough_174 : decode cX12_goThrough 174 = .ok (.goto 4, 3) := by decide +kernel
theorem dX12_goThrough_177 : decode cX12_goThrough 177 = .ok (.iconst 0, 1) := by decide +kernel
theorem dX12_goThrough_178 : decode cX12_goThrough 178 = .ok (.istore 8, 2) := by decide +kernel
theorem dX12_goThrough_180 : decode cX12_goThrough 180 = .ok (.aload_n 0, 1) := by decide +kernel
theorem dX12_goThrough_181 : decode cX12_goThrough 181 = .ok (.aload_n 0, 1) := by decide +kernel
theorem dX12_goThrough_182 : decode cX12_goThrough 182 = .ok (.getfield 256, 3) := by decide +kernel
theorem dX12_goThrough_185 : decode cX12_goThrough 185 = .ok (.aload_n 0, 1) := by decide +kernel
theorem dX12_goThrough_186 : decode cX12_goThrough 186 = .ok (.getfield 60, 3) := by decide +kernel
theorem dX12_goThrough_189 : decode cX12_goThrough 189 = .ok (.iload 7, 2) := by decide +kernel
theorem dX12_goThrough_191 : decode cX12_goThrough 191 = .ok (.iaload, 1) := by decide +kernel
theorem dX12_goThrough_192 : decode cX12_goThrough 192 = .ok (.invokevirtual 274, 3) := by decide +kernel
theorem dX12_goThrough_195 : decode cX12_goThrough 195 = .ok (.istore 9, 2) := by decide +kernel
theorem dX12_goThrough_197 : decode cX12_goThrough 197 = .ok (.iconst 4, 1) := by decide +kernel
theorem dX12_goThrough_198 : decode cX12_goThrough 198 = .ok (.aload_n 0, 1) := by decide +kernel
theorem dX12_goThrough_199 : decode cX12_goThrough 199 = .ok (.getfield 256, 3) := by decide +kernel
theorem dX12_goThrough_202 : decode cX12_goThrough 202 = .ok (.imul, 1) := by decide +kernel
theorem dX12_goThrough_203 : decode cX12_goThrough 203 = .ok (.iload 9, 2) := by decide +kernel
theorem dX12_goThrough_205 : decode cX12_goThrough 205 = .ok (.iadd, 1) := by decide +kernel
theorem dX12_goThrough_206 : decode cX12_goThrough 206 = .ok (.istore 10, 2) := by decide +kernel
theorem dX12_goThrough_208 : decode cX12_goThrough 208 = .ok (.aload_n 0, 1) := by decide +kernel
theorem dX12_goThrough_209 : decode cX12_goThrough 209 = .ok (.iload_n 3, 1) := by decide +kernel
theorem dX12_goThrough_210 : decode cX12_goThrough 210 = .ok (.invokevirtual 277, 3) := by decide +kernel
theorem dX12_goThrough_213 : decode cX12_goThrough 213 = .ok (.aload_n 0, 1) := by decide +kernel
theorem dX12_goThrough_214 : decode cX12_goThrough 214 = .ok (.iload_n 3, 1) := by decide +kernel
theorem dX12_goThrough_215 : decode cX12_goThrough 215 = .ok (.iload 8, 2) := by decide +kernel
theorem dX12_goThrough_217 : decode cX12_goThrough 217 = .ok (.iload 9, 2) := by decide +kernel
theorem dX12_goThrough_219 : decode cX12_goThrough 219 = .ok (.iconst (-1), 1) := by decide +kernel
theorem dX12_goThrough_220 : decode cX12_goThrough 220 = .ok (.if_icmp .ne 7, 3) := by decide +kernel
theorem dX12_goThrough_223 : decode cX12_goThrough 223 = .ok (.iconst 0, 1) := by decide +kernel
theorem dX12_goThrough_224 : decode cX12_goThrough 224 = .ok (.goto 10, 3) := by decide +kernel
theorem dX12_goThrough_227 : decode cX12_goThrough 227 = .ok (.aload_n 0, 1) := by decide +kernel
theorem dX12_goThrough_228 : decode cX12_goThrough 228 = .ok (.getfield 49, 3) := by decide +kernel
theorem dX12_goThrough_231 : decode cX12_goThrough 231 = .ok (.iload 10, 2) := by decide +kernel
theorem dX12_goThrough_233 : decode cX12_goThrough 233 = .ok (.baload, 1) := by decide +kernel
theorem dX12_goThrough_234 : decode cX12_goThrough 234 = .ok (.iadd, 1) := by decide +kernel
theorem dX12_goThrough_235 : decode cX12_goThrough 235 = .ok (.iload 8, 2) := by decide +kernel
theorem dX12_goThrough_237 : decode cX12_goThrough 237 = .ok (.iload 9, 2) := by decide +kernel
theorem dX12_goThrough_239 : decode cX12_goThrough 239 = .ok (.iconst (-1), 1) := by decide +kernel
theorem dX12_goThrough_240 : decode cX12_goThrough 240 = .ok (.if_icmp .ne 7, 3) := by decide +kernel
theorem dX12_goThrough_243 : decode cX12_goThrough 243 = .ok (.iconst 0, 1) := by decide +kernel
theorem dX12_goThrough_244 : decode cX12_goThrough 244 = .ok (.goto 10, 3) := by decide +kernel
theorem dX12_goThrough_247 : decode cX12_goThrough 247 = .ok (.aload_n 0, 1) := by decide +kernel
theorem dX12_goThrough_248 : decode cX12_goThrough 248 = .ok (.getfield 53, 3) := by decide +kernel
theorem dX12_goThrough_251 : decode cX12_goThrough 251 = .ok (.iload 10, 2) := by decide +kernel
theorem dX12_goThrough_253 : decode cX12_goThrough 253 = .ok (.baload, 1) := by decide +kernel
theorem dX12_goThrough_254 : decode cX12_goThrough 254 = .ok (.iadd, 1) := by decide +kernel
theorem dX12_goThrough_255 : decode cX12_goThrough 255 = .ok (.invokevirtual 280, 3) := by decide +kernel
theorem dX12_goThrough_258 : decode cX12_goThrough 258 = .ok (.goto 47, 3) := by decide +kernel
theorem dX12_goThrough_261 : decode cX12_goThrough 261 = .ok (.iload_n 3, 1) := by decide +kernel
theorem dX12_goThrough_262 : decode cX12_goThrough 262 = .ok (.iload_n 2, 1) := by decide +kernel
theorem dX12_goThrough_263 : decode cX12_goThrough 263 = .ok (.if_icmp .ne 9, 3) := by decide +kernel
theorem dX12_goThrough_266 : decode cX12_goThrough 266 = .ok (.iconst 0, 1) := by decide +kernel
theorem dX12_goThrough_267 : decode cX12_goThrough 267 = .ok (.istore 4, 2) := by decide +kernel
theorem dX12_goThrough_269 : decode cX12_goThrough 269 = .ok (.goto 36, 3) := by decide +kernel
theorem dX12_goThrough_272 : decode cX12_goThrough 272 = .ok (.aload_n 0, 1) := by decide +kernel
theorem dX12_goThrough_273 : decode cX12_goThrough 273 = .ok (.getfield 72, 3) := by decide +kernel
theorem dX12_goThrough_276 : decode cX12_goThrough 276 = .ok (.iload_n 3, 1) := by decide +kernel
theorem dX12_goThrough_277 : decode cX12_goThrough 277 = .ok (.iaload, 1) := by decide +kernel
theorem dX12_goThrough_278 : decode cX12_goThrough 278 = .ok (.istore 6, 2) := by decide +kernel
theorem dX12_goThrough_280 : decode cX12_goThrough 280 = .ok (.aload_n 0, 1) := by decide +kernel
theorem dX12_goThrough_281 : decode cX12_goThrough 281 = .ok (.getfield 75, 3) := by decide +kernel
theorem dX12_goThrough_284 : decode cX12_goThrough 284 = .ok (.iload_n 3, 1) := by decide +kernel
theorem dX12_goThrough_285 : decode cX12_goThrough 285 = .ok (.iaload, 1) := by decide +kernel
theorem dX12_goThrough_286 : decode cX12_goThrough 286 = .ok (.istore 7, 2) := by decide +kernel
theorem dX12_goThrough_288 : decode cX12_goThrough 288 = .ok (.iinc 3 (-1), 3) := by decide +kernel
theorem dX12_goThrough_291 : decode cX12_goThrough 291 = .ok (.aload_n 0, 1) := by decide +kernel
theorem dX12_goThrough_292 : decode cX12_goThrough 292 = .ok (.iload_n 3, 1) := by decide +kernel
theorem dX12_goThrough_293 : decode cX12_goThrough 293 = .ok (.invokevirtual 277, 3) := by decide +kernel
theorem dX12_goThrough_296 : decode cX12_goThrough 296 = .ok (.aload_n 0, 1) := by decide +kernel
theorem dX12_goThrough_297 : decode cX12_goThrough 297 = .ok (.iload_n 3, 1) := by decide +kernel
theorem dX12_goThrough_298 : decode cX12_goThrough 298 = .ok (.iload 6, 2) := by decide +kernel
theorem dX12_goThrough_300 : decode cX12_goThrough 300 = .ok (.iload 7, 2) := by decide +kernel
theorem dX12_goThrough_302 : decode cX12_goThrough 302 = .ok (.invokevirtual 280, 3) := by decide +kernel
theorem dX12_goThrough_305 : decode cX12_goThrough 305 = .ok (.goto (-281), 3) := by decide +kernel
theorem dX12_goThrough_308 : decode cX12_goThrough 308 = .ok (.return_, 1) := by decide +kernel
theorem dX12_takeUp_0 : decode cX12_takeUp 0 = .ok (.aload_n 0, 1) := by decide +kernel
theorem dX12_takeUp_1 : decode cX12_takeUp 1 = .ok (.dup, 1) := by decide +kernel
theorem dX12_takeUp_2 : decode cX12_takeUp 2 = .ok (.getfield 127, 3) := by decide +kernel
theorem dX12_takeUp_5 : decode cX12_takeUp 5 = .ok (.iconst 1, 1) := by decide +kernel
theorem dX12_takeUp_6 : decode cX12_takeUp 6 = .ok (.isub, 1) := by decide +kernel
theorem dX12_takeUp_7 : decode cX12_takeUp 7 = .ok (.putfield 127, 3) := by decide +kernel
theorem dX12_takeUp_10 : decode cX12_takeUp 10 = .ok (.aload_n 0, 1) := by decide +kernel
theorem dX12_takeUp_11 : decode cX12_takeUp 11 = .ok (.dup, 1) := by decide +kernel
theorem dX12_takeUp_12 : decode cX12_takeUp 12 = .ok (.getfield 256, 3) := by decide +kernel
theorem dX12_takeUp_15 : decode cX12_takeUp 15 = .ok (.iconst 1, 1) := by decide +kernel
theorem dX12_takeUp_16 : decode cX12_takeUp 16 = .ok (.iconst 4, 1) := by decide +kernel
theorem dX12_takeUp_17 : decode cX12_takeUp 17 = .ok (.aload_n 0, 1) := by decide +kernel
theorem dX12_takeUp_18 : decode cX12_takeUp 18 = .ok (.getfield 60, 3) := by decide +kernel
theorem dX12_takeUp_21 : decode cX12_takeUp 21 = .ok (.iload_n 1, 1) := by decide +kernel
theorem dX12_takeUp_22 : decode cX12_takeUp 22 = .ok (.iaload, 1) := by decide +kernel
theorem dX12_takeUp_23 : decode cX12_takeUp 23 = .ok (.imul, 1) := by decide +kernel
theorem dX12_takeUp_24 : decode cX12_takeUp 24 = .ok (.aload_n 0, 1) := by decide +kernel
theorem dX12_takeUp_25 : decode cX12_takeUp 25 = .ok (.getfield 66, 3) := by decide +kernel
theorem dX12_takeUp_28 : decode cX12_takeUp 28 = .ok (.iload_n 1, 1) := by decide +kernel
theorem dX12_takeUp_29 : decode cX12_takeUp 29 = .ok (.iaload, 1) := by decide +kernel
theorem dX12_takeUp_30 : decode cX12_takeUp 30 = .ok (.iadd, 1) := by decide +kernel
theorem dX12_takeUp_31 : decode cX12_takeUp 31 = .ok (.ishl, 1) := by decide +kernel
theorem dX12_takeUp_32 : decode cX12_takeUp 32 = .ok (.ior, 1) := by decide +kernel
theorem dX12_takeUp_33 : decode cX12_takeUp 33 = .ok (.putfield 256, 3) := by decide +kernel
theorem dX12_takeUp_36 : decode cX12_takeUp 36 = .ok (.return_, 1) := by decide +kernel
theorem dX12_solve_0 : decode cX12_solve 0 = .ok (.aload_n 0, 1) := by decide +kernel
theorem dX12_solve_1 : decode cX12_solve 1 = .ok (.getfield 56, 3) := by decide +kernel
theorem dX12_solve_4 : decode cX12_solve 4 = .ok (.iload_n 1, 1) := by decide +kernel
theorem dX12_solve_5 : decode cX12_solve 5 = .ok (.if_icmp .ne 12, 3) := by decide +kernel
theorem dX12_solve_8 : decode cX12_solve 8 = .ok (.aload_n 0, 1) := by decide +kernel
theorem dX12_solve_9 : decode cX12_solve 9 = .ok (.getfield 283, 3) := by decide +kernel
theorem dX12_solve_12 : decode cX12_solve 12 = .ok (.iload_n 3, 1) := by decide +kernel
theorem dX12_solve_13 : decode cX12_solve 13 = .ok (.if_icmp .ne 4, 3) := by decide +kernel
theorem dX12_solve_16 : decode cX12_solve 16 = .ok (.return_, 1) := by decide +kernel
theorem dX12_solve_17 : decode cX12_solve 17 = .ok (.aload_n 0, 1) := by decide +kernel
theorem dX12_solve_18 : decode cX12_solve 18 = .ok (.iload_n 1, 1) := by decide +kernel
theorem dX12_solve_19 : decode cX12_solve 19 = .ok (.putfield 56, 3) := by decide +kernel
theorem dX12_solve_22 : decode cX12_solve 22 = .ok (.aload_n 0, 1) := by decide +kernel
theorem dX12_solve_23 : decode cX12_solve 23 = .ok (.iload_n 3, 1) := by decide +kernel
theorem dX12_solve_24 : decode cX12_solve 24 = .ok (.putfield 283, 3) := by decide +kernel
theorem dX12_solve_27 : decode cX12_solve 27 = .ok (.aload_n 0, 1) := by decide +kernel
theorem dX12_solve_28 : decode cX12_solve 28 = .ok (.iload_n 3, 1) := by decide +kernel
theorem dX12_solve_29 : decode cX12_solve 29 = .ok (.putfield 262, 3) := by decide +kernel
theorem dX12_solve_32 : decode cX12_solve 32 = .ok (.aload_n 0, 1) := by decide +kernel
theorem dX12_solve_33 : decode cX12_solve 33 = .ok (.getfield 78, 3) := by decide +kernel
theorem dX12_solve_36 : decode cX12_solve 36 = .ok (.istore 4, 2) := by decide +kernel
theorem dX12_solve_38 : decode cX12_solve 38 = .ok (.aload_n 0, 1) := by decide +kernel
theorem dX12_solve_39 : decode cX12_solve 39 = .ok (.iconst 1, 1) := by decide +kernel
theorem dX12_solve_40 : decode cX12_solve 40 = .ok (.putfield 78, 3) := by decide +kernel
theorem dX12_solve_43 : decode cX12_solve 43 = .ok (.aload_n 0, 1) := by decide +kernel
theorem dX12_solve_44 : decode cX12_solve 44 = .ok (.iconst 0, 1) := by decide +kernel
theorem dX12_solve_45 : decode cX12_solve 45 = .ok (.putfield 286, 3) := by decide +kernel
theorem dX12_solve_48 : decode cX12_solve 48 = .ok (.iconst 0, 1) := by decide +kernel
theorem dX12_solve_49 : decode cX12_solve 49 = .ok (.istore 5, 2) := by decide +kernel
theorem dX12_solve_51 : decode cX12_solve 51 = .ok (.iload 5, 2) := by decide +kernel
theorem dX12_solve_53 : decode cX12_solve 53 = .ok (.iconst 4, 1) := by decide +kernel
theorem dX12_solve_54 : decode cX12_solve 54 = .ok (.if_icmp .ge 102, 3) := by decide +kernel
theorem dX12_solve_57 : decode cX12_solve 57 = .ok (.aload_n 0, 1) := by decide +kernel
theorem dX12_solve_58 : decode cX12_solve 58 = .ok (.getfield 45, 3) := by decide +kernel
theorem dX12_solve_61 : decode cX12_solve 61 = .ok (.iload 5, 2) := by decide +kernel
theorem dX12_solve_63 : decode cX12_solve 63 = .ok (.iconst 0, 1) := by decide +kernel
theorem dX12_solve_64 : decode cX12_solve 64 = .ok (.aload_n 0, 1) := by decide +kernel
theorem dX12_solve_65 : decode cX12_solve 65 = .ok (.getfield 8, 3) := by decide +kernel
theorem dX12_solve_68 : decode cX12_solve 68 = .ok (.iload_n 2, 1) := by decide +kernel
theorem dX12_solve_69 : decode cX12_solve 69 = .ok (.bipush 22, 2) := by decide +kernel
theorem dX12_solve_71 : decode cX12_solve 71 = .ok (.iadd, 1) := by decide +kernel
theorem dX12_solve_72 : decode cX12_solve 72 = .ok (.iload 5, 2) := by decide +kernel
theorem dX12_solve_74 : decode cX12_solve 74 = .ok (.iadd, 1) := by decide +kernel
theorem dX12_solve_75 : decode cX12_solve 75 = .ok (.iaload, 1) := by decide +kernel
theorem dX12_solve_76 : decode cX12_solve 76 = .ok (.invokestatic 247, 3) := by decide +kernel
theorem dX12_solve_79 : decode cX12_solve 79 = .ok (.iastore, 1) := by decide +kernel
theorem dX12_solve_80 : decode cX12_solve 80 = .ok (.iconst 0, 1) := by decide +kernel
theorem dX12_solve_81 : decode cX12_solve 81 = .ok (.istore 6, 2) := by decide +kernel
theorem dX12_solve_83 : decode cX12_solve 83 = .ok (.iload 6, 2) := by decide +kernel
theorem dX12_solve_85 : decode cX12_solve 85 = .ok (.aload_n 0, 1) := by decide +kernel
theorem dX12_solve_86 : decode cX12_solve 86 = .ok (.getfield 45, 3) := by decide +kernel
theorem dX12_solve_89 : decode cX12_solve 89 = .ok (.iload 5, 2) := by decide +kernel
theorem dX12_solve_91 : decode cX12_solve 91 = .ok (.iaload, 1) := by decide +kernel
theorem dX12_solve_92 : decode cX12_solve 92 = .ok (.if_icmp .ge 58, 3) := by decide +kernel
theorem dX12_solve_95 : decode cX12_solve 95 = .ok (.aload_n 0, 1) := by decide +kernel
theorem dX12_solve_96 : decode cX12_solve 96 = .ok (.getfield 42, 3) := by decide +kernel
theorem dX12_solve_99 : decode cX12_solve 99 = .ok (.iconst 4, 1) := by decide +kernel
theorem dX12_solve_100 : decode cX12_solve 100 = .ok (.iload 5, 2) := by decide +kernel
theorem dX12_solve_102 : decode cX12_solve 102 = .ok (.imul, 1) := by decide +kernel
theorem dX12_solve_103 : decode cX12_solve 103 = .ok (.iload 6, 2) := by decide +kernel
theorem dX12_solve_105 : decode cX12_solve 105 = .ok (.iadd, 1) := by decide +kernel
theorem dX12_solve_106 : decode cX12_solve 106 = .ok (.aload_n 0, 1) := by decide +kernel
theorem dX12_solve_107 : decode cX12_solve 107 = .ok (.getfield 8, 3) := by decide +kernel
theorem dX12_solve_110 : decode cX12_solve 110 = .ok (.iload_n 2, 1) := by decide +kernel
theorem dX12_solve_111 : decode cX12_solve 111 = .ok (.sipush 230, 3) := by decide +kernel
theorem dX12_solve_114 : decode cX12_solve 114 = .ok (.iadd, 1) := by decide +kernel
theorem dX12_solve_115 : decode cX12_solve 115 = .ok (.bipush 60, 2) := by decide +kernel
theorem dX12_solve_117 : decode cX12_solve 117 = .ok (.iload 5, 2) := by decide +kernel
theorem dX12_solve_119 : decode cX12_solve 119 = .ok (.imul, 1) := by decide +kernel
theorem dX12_solve_120 : decode cX12_solve 120 = .ok (.iadd, 1) := by decide +kernel
theorem dX12_solve_121 : decode cX12_solve 121 = .ok (.iload 6, 2) := by decide +kernel
theorem dX12_solve_123 : decode cX12_solve 123 = .ok (.iadd, 1) := by decide +kernel
theorem dX12_solve_124 : decode cX12_solve 124 = .ok (.iaload, 1) := by decide +kernel
theorem dX12_solve_125 : decode cX12_solve 125 = .ok (.iastore, 1) := by decide +kernel
theorem dX12_solve_126 : decode cX12_solve 126 = .ok (.aload_n 0, 1) := by decide +kernel
theorem dX12_solve_127 : decode cX12_solve 127 = .ok (.dup, 1) := by decide +kernel
theorem dX12_solve_128 : decode cX12_solve 128 = .ok (.getfield 286, 3) := by decide +kernel
theorem dX12_solve_131 : decode cX12_solve 131 = .ok (.iconst 1, 1) := by decide +kernel
theorem dX12_solve_132 : decode cX12_solve 132 = .ok (.iconst 4, 1) := by decide +kernel
theorem dX12_solve_133 : decode cX12_solve 133 = .ok (.iload 5, 2) := by decide +kernel
theorem dX12_solve_135 : decode cX12_solve 135 = .ok (.imul, 1) := by decide +kernel
theorem dX12_solve_136 : decode cX12_solve 136 = .ok (.iload 6, 2) := by decide +kernel
theorem dX12_solve_138 : decode cX12_solve 138 = .ok (.iadd, 1) := by decide +kernel
theorem dX12_solve_139 : decode cX12_solve 139 = .ok (.ishl, 1) := by decide +kernel
theorem dX12_solve_140 : decode cX12_solve 140 = .ok (.ior, 1) := by decide +kernel
theorem dX12_solve_141 : decode cX12_solve 141 = .ok (.putfield 286, 3) := by decide +kernel
theorem dX12_solve_144 : decode cX12_solve 144 = .ok (.iinc 6 1, 3) := by decide +kernel
theorem dX12_solve_147 : decode cX12_solve 147 = .ok (.goto (-64), 3) := by decide +kernel
theorem dX12_solve_150 : decode cX12_solve 150 = .ok (.iinc 5 1, 3) := by decide +kernel
theorem dX12_solve_153 : decode cX12_solve 153 = .ok (.goto (-102), 3) := by decide +kernel
theorem dX12_solve_156 : decode cX12_solve 156 = .ok (.iconst 0, 1) := by decide +kernel
theorem dX12_solve_157 : decode cX12_solve 157 = .ok (.istore 5, 2) := by decide +kernel
theorem dX12_solve_159 : decode cX12_solve 159 = .ok (.iconst 0, 1) := by decide +kernel
theorem dX12_solve_160 : decode cX12_solve 160 = .ok (.istore 6, 2) := by decide +kernel
theorem dX12_solve_162 : decode cX12_solve 162 = .ok (.iload 6, 2) := by decide +kernel
theorem dX12_solve_164 : decode cX12_solve 164 = .ok (.iconst 4, 1) := by decide +kernel
theorem dX12_solve_165 : decode cX12_solve 165 = .ok (.if_icmp .ge 91, 3) := by decide +kernel
theorem dX12_solve_168 : decode cX12_solve 168 = .ok (.aload_n 0, 1) := by decide +kernel
theorem dX12_solve_169 : decode cX12_solve 169 = .ok (.iload 5, 2) := by decide +kernel
theorem dX12_solve_171 : decode cX12_solve 171 = .ok (.invokevirtual 289, 3) := by decide +kernel
theorem dX12_solve_174 : decode cX12_solve 174 = .ok (.ifCond .eq 82, 3) := by decide +kernel
theorem dX12_solve_177 : decode cX12_solve 177 = .ok (.iload 5, 2) := by decide +kernel
theorem dX12_solve_179 : decode cX12_solve 179 = .ok (.iload 6, 2) := by decide +kernel
theorem dX12_solve_181 : decode cX12_solve 181 = .ok (.invokestatic 244, 3) := by decide +kernel
theorem dX12_solve_184 : decode cX12_solve 184 = .ok (.ifCond .le 66, 3) := by decide +kernel
theorem dX12_solve_187 : decode cX12_solve 187 = .ok (.aload_n 0, 1) := by decide +kernel
theorem dX12_solve_188 : decode cX12_solve 188 = .ok (.iload 5, 2) := by decide +kernel
theorem dX12_solve_190 : decode cX12_solve 190 = .ok (.iload 6, 2) := by decide +kernel
theorem dX12_solve_192 : decode cX12_solve 192 = .ok (.invokevirtual 292, 3) := by decide +kernel
theorem dX12_solve_195 : decode cX12_solve 195 = .ok (.aload_n 0, 1) := by decide +kernel
theorem dX12_solve_196 : decode cX12_solve 196 = .ok (.iload 5, 2) := by decide +kernel
theorem dX12_solve_198 : decode cX12_solve 198 = .ok (.putfield 256, 3) := by decide +kernel
theorem dX12_solve_201 : decode cX12_solve 201 = .ok (.aload_n 0, 1) := by decide +kernel
theorem dX12_solve_202 : decode cX12_solve 202 = .ok (.iconst 0, 1) := by decide +kernel
theorem dX12_solve_203 : decode cX12_solve 203 = .ok (.putfield 127, 3) := by decide +kernel
theorem dX12_solve_206 : decode cX12_solve 206 = .ok (.aload_n 0, 1) := by decide +kernel
theorem dX12_solve_207 : decode cX12_solve 207 = .ok (.iload_n 2, 1) := by decide +kernel
theorem dX12_solve_208 : decode cX12_solve 208 = .ok (.iconst 0, 1) := by decide +kernel
theorem dX12_solve_209 : decode cX12_solve 209 = .ok (.invokevirtual 295, 3) := by decide +kernel
theorem dX12_solve_212 : decode cX12_solve 212 = .ok (.aload_n 0, 1) := by decide +kernel
theorem dX12_solve_213 : decode cX12_solve 213 = .ok (.getfield 49, 3) := by decide +kernel
theorem dX12_solve_216 : decode cX12_solve 216 = .ok (.iconst 4, 1) := by decide +kernel
theorem dX12_solve_217 : decode cX12_solve 217 = .ok (.iload 5, 2) := by decide +kernel
theorem dX12_solve_219 : decode cX12_solve 219 = .ok (.imul, 1) := by decide +kernel
theorem dX12_solve_220 : decode cX12_solve 220 = .ok (.iload 6, 2) := by decide +kernel
theorem dX12_solve_222 : decode cX12_solve 222 = .ok (.iadd, 1) := by decide +kernel
theorem dX12_solve_223 : decode cX12_solve 223 = .ok (.aload_n 0, 1) := by decide +kernel
theorem dX12_solve_224 : decode cX12_solve 224 = .ok (.getfield 72, 3) := by decide +kernel
theorem dX12_solve_227 : decode cX12_solve 227 = .ok (.iconst 0, 1) := by decide +kernel
theorem dX12_solve_228 : decode cX12_solve 228 = .ok (.iaload, 1) := by decide +kernel
theorem dX12_solve_229 : decode cX12_solve 229 = .ok (.i2b, 1) := by decide +kernel
theorem dX12_solve_230 : decode cX12_solve 230 = .ok (.bastore, 1) := by decide +kernel
theorem dX12_solve_231 : decode cX12_solve 231 = .ok (.aload_n 0, 1) := by decide +kernel
theorem dX12_solve_232 : decode cX12_solve 232 = .ok (.getfield 53, 3) := by decide +kernel
theorem dX12_solve_235 : decode cX12_solve 235 = .ok (.iconst 4, 1) := by decide +kernel
theorem dX12_solve_236 : decode cX12_solve 236 = .ok (.iload 5, 2) := by decide +kernel
theorem dX12_solve_238 : decode cX12_solve 238 = .ok (.imul, 1) := by decide +kernel
theorem dX12_solve_239 : decode cX12_solve 239 = .ok (.iload 6, 2) := by decide +kernel
theorem dX12_solve_241 : decode cX12_solve 241 = .ok (.iadd, 1) := by decide +kernel
theorem dX12_solve_242 : decode cX12_solve 242 = .ok (.aload_n 0, 1) := by decide +kernel
theorem dX12_solve_243 : decode cX12_solve 243 = .ok (.getfield 75, 3) := by decide +kernel
theorem dX12_solve_246 : decode cX12_solve 246 = .ok (.iconst 0, 1) := by decide +kernel
theorem dX12_solve_247 : decode cX12_solve 247 = .ok (.iaload, 1) := by decide +kernel
theorem dX12_solve_248 : decode cX12_solve 248 = .ok (.i2b, 1) := by decide +kernel
theorem dX12_solve_249 : decode cX12_solve 249 = .ok (.bastore, 1) := by decide +kernel
theorem dX12_solve_250 : decode cX12_solve 250 = .ok (.iinc 6 1, 3) := by decide +kernel
theorem dX12_solve_253 : decode cX12_solve 253 = .ok (.goto (-91), 3) := by decide +kernel
theorem dX12_solve_256 : decode cX12_solve 256 = .ok (.iload 5, 2) := by decide +kernel
theorem dX12_solve_258 : decode cX12_solve 258 = .ok (.aload_n 0, 1) := by decide +kernel
theorem dX12_solve_259 : decode cX12_solve 259 = .ok (.getfield 286, 3) := by decide +kernel
theorem dX12_solve_262 : decode cX12_solve 262 = .ok (.isub, 1) := by decide +kernel
theorem dX12_solve_263 : decode cX12_solve 263 = .ok (.aload_n 0, 1) := by decide +kernel
theorem dX12_solve_264 : decode cX12_solve 264 = .ok (.getfield 286, 3) := by decide +kernel
theorem dX12_solve_267 : decode cX12_solve 267 = .ok (.iand, 1) := by decide +kernel
theorem dX12_solve_268 : decode cX12_solve 268 = .ok (.istore 5, 2) := by decide +kernel
theorem dX12_solve_270 : decode cX12_solve 270 = .ok (.iload 5, 2) := by decide +kernel
theorem dX12_solve_272 : decode cX12_solve 272 = .ok (.ifCond .ne (-113), 3) := by decide +kernel
theorem dX12_solve_275 : decode cX12_solve 275 = .ok (.aload_n 0, 1) := by decide +kernel
theorem dX12_solve_276 : decode cX12_solve 276 = .ok (.iload 4, 2) := by decide +kernel
theorem dX12_solve_278 : decode cX12_solve 278 = .ok (.putfield 78, 3) := by decide +kernel
theorem dX12_solve_281 : decode cX12_solve 281 = .ok (.return_, 1) := by decide +kernel
theorem dX12_sureAt_0 : decode cX12_sureAt 0 = .ok (.aload_n 0, 1) := by decide +kernel
theorem dX12_sureAt_1 : decode cX12_sureAt 1 = .ok (.iload_n 1, 1) := by decide +kernel
theorem dX12_sureAt_2 : decode cX12_sureAt 2 = .ok (.iload_n 2, 1) := by decide +kernel
theorem dX12_sureAt_3 : decode cX12_sureAt 3 = .ok (.iload_n 3, 1) := by decide +kernel
theorem dX12_sureAt_4 : decode cX12_sureAt 4 = .ok (.invokevirtual 298, 3) := by decide +kernel
theorem dX12_sureAt_7 : decode cX12_sureAt 7 = .ok (.aload_n 0, 1) := by decide +kernel
theorem dX12_sureAt_8 : decode cX12_sureAt 8 = .ok (.getfield 8, 3) := by decide +kernel
theorem dX12_sureAt_11 : decode cX12_sureAt 11 = .ok (.iload_n 2, 1) := by decide +kernel
theorem dX12_sureAt_12 : decode cX12_sureAt 12 = .ok (.bipush 9, 2) := by decide +kernel
theorem dX12_sureAt_14 : decode cX12_sureAt 14 = .ok (.iadd, 1) := by decide +kernel
theorem dX12_sureAt_15 : decode cX12_sureAt 15 = .ok (.iaload, 1) := by decide +kernel
theorem dX12_sureAt_16 : decode cX12_sureAt 16 = .ok (.iconst (-1), 1) := by decide +kernel
theorem dX12_sureAt_17 : decode cX12_sureAt 17 = .ok (.if_icmp .ne 7, 3) := by decide +kernel
theorem dX12_sureAt_20 : decode cX12_sureAt 20 = .ok (.iconst 0, 1) := by decide +kernel
theorem dX12_sureAt_21 : decode cX12_sureAt 21 = .ok (.goto 24, 3) := by decide +kernel
theorem dX12_sureAt_24 : decode cX12_sureAt 24 = .ok (.aload_n 0, 1) := by decide +kernel
theorem dX12_sureAt_25 : decode cX12_sureAt 25 = .ok (.getfield 49, 3) := by decide +kernel
theorem dX12_sureAt_28 : decode cX12_sureAt 28 = .ok (.iconst 4, 1) := by decide +kernel
theorem dX12_sureAt_29 : decode cX12_sureAt 29 = .ok (.aload_n 0, 1) := by decide +kernel
theorem dX12_sureAt_30 : decode cX12_sureAt 30 = .ok (.getfield 286, 3) := by decide +kernel
theorem dX12_sureAt_33 : decode cX12_sureAt 33 = .ok (.imul, 1) := by decide +kernel
theorem dX12_sureAt_34 : decode cX12_sureAt 34 = .ok (.aload_n 0, 1) := by decide +kernel
theorem dX12_sureAt_35 : decode cX12_sureAt 35 = .ok (.getfield 8, 3) := by decide +kernel
theorem dX12_sureAt_38 : decode cX12_sureAt 38 = .ok (.iload_n 2, 1) := by decide +kernel
theorem dX12_sureAt_39 : decode cX12_sureAt 39 = .ok (.bipush 9, 2) := by decide +kernel
theorem dX12_sureAt_41 : decode cX12_sureAt 41 = .ok (.iadd, 1) := by decide +kernel
theorem dX12_sureAt_42 : decode cX12_sureAt 42 = .ok (.iaload, 1) := by decide +kernel
theorem dX12_sureAt_43 : decode cX12_sureAt 43 = .ok (.iadd, 1) := by decide +kernel
theorem dX12_sureAt_44 : decode cX12_sureAt 44 = .ok (.baload, 1) := by decide +kernel
theorem dX12_sureAt_45 : decode cX12_sureAt 45 = .ok (.ireturn, 1) := by decide +kernel
theorem dX12_endBars_0 : decode cX12_endBars 0 = .ok (.aload_n 0, 1) := by decide +kernel
theorem dX12_endBars_1 : decode cX12_endBars 1 = .ok (.iload_n 1, 1) := by decide +kernel
theorem dX12_endBars_2 : decode cX12_endBars 2 = .ok (.invokevirtual 107, 3) := by decide +kernel
theorem dX12_endBars_5 : decode cX12_endBars 5 = .ok (.ifCond .eq 12, 3) := by decide +kernel
theorem dX12_endBars_8 : decode cX12_endBars 8 = .ok (.iload_n 2, 1) := by decide +kernel
theorem dX12_endBars_9 : decode cX12_endBars 9 = .ok (.iconst 0, 1) := by decide +kernel
theorem dX12_endBars_10 : decode cX12_endBars 10 = .ok (.iconst 1, 1) := by decide +kernel
theorem dX12_endBars_11 : decode cX12_endBars 11 = .ok (.invokestatic 91, 3) := by decide +kernel
theorem dX12_endBars_14 : decode cX12_endBars 14 = .ok (.ifCond .ne 6, 3) := by decide +kernel
theorem dX12_endBars_17 : decode cX12_endBars 17 = .ok (.bipush (-2), 2) := by decide +kernel
theorem dX12_endBars_19 : decode cX12_endBars 19 = .ok (.ireturn, 1) := by decide +kernel
theorem dX12_endBars_20 : decode cX12_endBars 20 = .ok (.aload_n 0, 1) := by decide +kernel
theorem dX12_endBars_21 : decode cX12_endBars 21 = .ok (.sipush 1290, 3) := by decide +kernel
theorem dX12_endBars_24 : decode cX12_endBars 24 = .ok (.iload_n 1, 1) := by decide +kernel
theorem dX12_endBars_25 : decode cX12_endBars 25 = .ok (.imul, 1) := by decide +kernel
theorem dX12_endBars_26 : decode cX12_endBars 26 = .ok (.invokevirtual 301, 3) := by decide +kernel
theorem dX12_endBars_29 : decode cX12_endBars 29 = .ok (.ifCond .eq 7, 3) := by decide +kernel
theorem dX12_endBars_32 : decode cX12_endBars 32 = .ok (.iconst 0, 1) := by decide +kernel
theorem dX12_endBars_33 : decode cX12_endBars 33 = .ok (.goto 5, 3) := by decide +kernel
theorem dX12_endBars_36 : decode cX12_endBars 36 = .ok (.bipush (-4), 2) := by decide +kernel
theorem dX12_endBars_38 : decode cX12_endBars 38 = .ok (.ireturn, 1) := by decide +kernel
theorem dX12_best_0 : decode cX12_best 0 = .ok (.aload_n 0, 1) := by decide +kernel
theorem dX12_best_1 : decode cX12_best 1 = .ok (.iload_n 1, 1) := by decide +kernel
theorem dX12_best_2 : decode cX12_best 2 = .ok (.iload_n 2, 1) := by decide +kernel
theorem dX12_best_3 : decode cX12_best 3 = .ok (.invokevirtual 304, 3) := by decide +kernel
theorem dX12_best_6 : decode cX12_best 6 = .ok (.istore_n 3, 1) := by decide +kernel
theorem dX12_best_7 : decode cX12_best 7 = .ok (.iload_n 3, 1) := by decide +kernel
theorem dX12_best_8 : decode cX12_best 8 = .ok (.ifCond .ge 7, 3) := by decide +kernel
theorem dX12_best_11 : decode cX12_best 11 = .ok (.iload_n 3, 1) := by decide +kernel
theorem dX12_best_12 : decode cX12_best 12 = .ok (.goto 14, 3) := by decide +kernel
theorem dX12_best_15 : decode cX12_best 15 = .ok (.aload_n 0, 1) := by decide +kernel
theorem dX12_best_16 : decode cX12_best 16 = .ok (.iload_n 1, 1) := by decide +kernel
theorem dX12_best_17 : decode cX12_best 17 = .ok (.sipush 1290, 3) := by decide +kernel
theorem dX12_best_20 : decode cX12_best 20 = .ok (.iload_n 1, 1) := by decide +kernel
theorem dX12_best_21 : decode cX12_best 21 = .ok (.imul, 1) := by decide +kernel
theorem dX12_best_22 : decode cX12_best 22 = .ok (.iload_n 2, 1) := by decide +kernel
theorem dX12_best_23 : decode cX12_best 23 = .ok (.invokevirtual 307, 3) := by decide +kernel
theorem dX12_best_26 : decode cX12_best 26 = .ok (.ireturn, 1) := by decide +kernel
theorem dX12_check_0 : decode cX12_check 0 = .ok (.aload_n 0, 1) := by decide +kernel
theorem dX12_check_1 : decode cX12_check 1 = .ok (.iload_n 1, 1) := by decide +kernel
theorem dX12_check_2 : decode cX12_check 2 = .ok (.iload_n 2, 1) := by decide +kernel
theorem dX12_check_3 : decode cX12_check 3 = .ok (.invokevirtual 304, 3) := by decide +kernel
theorem dX12_check_6 : decode cX12_check 6 = .ok (.istore_n 3, 1) := by decide +kernel
theorem dX12_check_7 : decode cX12_check 7 = .ok (.iload_n 3, 1) := by decide +kernel
theorem dX12_check_8 : decode cX12_check 8 = .ok (.ifCond .ge 5, 3) := by decide +kernel
theorem dX12_check_11 : decode cX12_check 11 = .ok (.iload_n 3, 1) := by decide +kernel
theorem dX12_check_12 : decode cX12_check 12 = .ok (.ireturn, 1) := by decide +kernel
theorem dX12_check_13 : decode cX12_check 13 = .ok (.sipush 1290, 3) := by decide +kernel
theorem dX12_check_16 : decode cX12_check 16 = .ok (.iload_n 1, 1) := by decide +kernel
theorem dX12_check_17 : decode cX12_check 17 = .ok (.imul, 1) := by decide +kernel
theorem dX12_check_18 : decode cX12_check 18 = .ok (.istore 4, 2) := by decide +kernel
theorem dX12_check_20 : decode cX12_check 20 = .ok (.aload_n 0, 1) := by decide +kernel
theorem dX12_check_21 : decode cX12_check 21 = .ok (.iload_n 1, 1) := by decide +kernel
theorem dX12_check_22 : decode cX12_check 22 = .ok (.iload 4, 2) := by decide +kernel
theorem dX12_check_24 : decode cX12_check 24 = .ok (.iload_n 2, 1) := by decide +kernel
theorem dX12_check_25 : decode cX12_check 25 = .ok (.invokevirtual 307, 3) := by decide +kernel
theorem dX12_check_28 : decode cX12_check 28 = .ok (.istore 5, 2) := by decide +kernel
theorem dX12_check_30 : decode cX12_check 30 = .ok (.aload_n 0, 1) := by decide +kernel
theorem dX12_check_31 : decode cX12_check 31 = .ok (.getfield 8, 3) := by decide +kernel
theorem dX12_check_34 : decode cX12_check 34 = .ok (.iload 4, 2) := by decide +kernel
theorem dX12_check_36 : decode cX12_check 36 = .ok (.bipush 9, 2) := by decide +kernel
theorem dX12_check_38 : decode cX12_check 38 = .ok (.iadd, 1) := by decide +kernel
theorem dX12_check_39 : decode cX12_check 39 = .ok (.iaload, 1) := by decide +kernel
theorem dX12_check_40 : decode cX12_check 40 = .ok (.iconst (-1), 1) := by decide +kernel
theorem dX12_check_41 : decode cX12_check 41 = .ok (.if_icmp .eq 30, 3) := by decide +kernel
theorem dX12_check_44 : decode cX12_check 44 = .ok (.aload_n 0, 1) := by decide +kernel
theorem dX12_check_45 : decode cX12_check 45 = .ok (.getfield 53, 3) := by decide +kernel
theorem dX12_check_48 : decode cX12_check 48 = .ok (.iconst 4, 1) := by decide +kernel
theorem dX12_check_49 : decode cX12_check 49 = .ok (.aload_n 0, 1) := by decide +kernel
theorem dX12_check_50 : decode cX12_check 50 = .ok (.getfield 286, 3) := by decide +kernel
theorem dX12_check_53 : decode cX12_check 53 = .ok (.imul, 1) := by decide +kernel
theorem dX12_check_54 : decode cX12_check 54 = .ok (.aload_n 0, 1) := by decide +kernel
theorem dX12_check_55 : decode cX12_check 55 = .ok (.getfield 8, 3) := by decide +kernel
theorem dX12_check_58 : decode cX12_check 58 = .ok (.iload 4, 2) := by decide +kernel
theorem dX12_check_60 : decode cX12_check 60 = .ok (.bipush 9, 2) := by decide +kernel
theorem dX12_check_62 : decode cX12_check 62 = .ok (.iadd, 1) := by decide +kernel
theorem dX12_check_63 : decode cX12_check 63 = .ok (.iaload, 1) := by decide +kernel
theorem dX12_check_64 : decode cX12_check 64 = .ok (.iadd, 1) := by decide +kernel
theorem dX12_check_65 : decode cX12_check 65 = .ok (.baload, 1) := by decide +kernel
theorem dX12_check_66 : decode cX12_check 66 = .ok (.iload 5, 2) := by decide +kernel
theorem dX12_check_68 : decode cX12_check 68 = .ok (.if_icmp .lt 7, 3) := by decide +kernel
theorem dX12_check_71 : decode cX12_check 71 = .ok (.iconst 1, 1) := by decide +kernel
theorem dX12_check_72 : decode cX12_check 72 = .ok (.goto 4, 3) := by decide +kernel
theorem dX12_check_75 : decode cX12_check 75 = .ok (.iconst 0, 1) := by decide +kernel
theorem dX12_check_76 : decode cX12_check 76 = .ok (.ireturn, 1) := by decide +kernel
theorem dX12_line_0 : decode cX12_line 0 = .ok (.aload_n 0, 1) := by decide +kernel
theorem dX12_line_1 : decode cX12_line 1 = .ok (.iload_n 1, 1) := by decide +kernel
theorem dX12_line_2 : decode cX12_line 2 = .ok (.iload_n 2, 1) := by decide +kernel
theorem dX12_line_3 : decode cX12_line 3 = .ok (.invokevirtual 304, 3) := by decide +kernel
theorem dX12_line_6 : decode cX12_line 6 = .ok (.istore 4, 2) := by decide +kernel
theorem dX12_line_8 : decode cX12_line 8 = .ok (.iload 4, 2) := by decide +kernel
theorem dX12_line_10 : decode cX12_line 10 = .ok (.ifCond .ge 6, 3) := by decide +kernel
theorem dX12_line_13 : decode cX12_line 13 = .ok (.iload 4, 2) := by decide +kernel
theorem dX12_line_15 : decode cX12_line 15 = .ok (.ireturn, 1) := by decide +kernel
theorem dX12_line_16 : decode cX12_line 16 = .ok (.sipush 1290, 3) := by decide +kernel
theorem dX12_line_19 : decode cX12_line 19 = .ok (.iload_n 1, 1) := by decide +kernel
theorem dX12_line_20 : decode cX12_line 20 = .ok (.imul, 1) := by decide +kernel
theorem dX12_line_21 : decode cX12_line 21 = .ok (.istore 5, 2) := by decide +kernel
theorem dX12_line_23 : decode cX12_line 23 = .ok (.aload_n 0, 1) := by decide +kernel
theorem dX12_line_24 : decode cX12_line 24 = .ok (.iload_n 1, 1) := by decide +kernel
theorem dX12_line_25 : decode cX12_line 25 = .ok (.iload 5, 2) := by decide +kernel
theorem dX12_line_27 : decode cX12_line 27 = .ok (.iload_n 2, 1) := by decide +kernel
theorem dX12_line_28 : decode cX12_line 28 = .ok (.invokevirtual 307, 3) := by decide +kernel
theorem dX12_line_31 : decode cX12_line 31 = .ok (.istore 6, 2) := by decide +kernel
theorem dX12_line_33 : decode cX12_line 33 = .ok (.aload_n 0, 1) := by decide +kernel
theorem dX12_line_34 : decode cX12_line 34 = .ok (.iconst 1, 1) := by decide +kernel
theorem dX12_line_35 : decode cX12_line 35 = .ok (.putfield 78, 3) := by decide +kernel
theorem dX12_line_38 : decode cX12_line 38 = .ok (.aload_n 0, 1) := by decide +kernel
theorem dX12_line_39 : decode cX12_line 39 = .ok (.getfield 286, 3) := by decide +kernel
theorem dX12_line_42 : decode cX12_line 42 = .ok (.istore 7, 2) := by decide +kernel
theorem dX12_line_44 : decode cX12_line 44 = .ok (.aload_n 0, 1) := by decide +kernel
theorem dX12_line_45 : decode cX12_line 45 = .ok (.getfield 8, 3) := by decide +kernel
theorem dX12_line_48 : decode cX12_line 48 = .ok (.iload 5, 2) := by decide +kernel
theorem dX12_line_50 : decode cX12_line 50 = .ok (.bipush 9, 2) := by decide +kernel
theorem dX12_line_52 : decode cX12_line 52 = .ok (.iadd, 1) := by decide +kernel
theorem dX12_line_53 : decode cX12_line 53 = .ok (.iaload, 1) := by decide +kernel
theorem dX12_line_54 : decode cX12_line 54 = .ok (.istore 8, 2) := by decide +kernel
theorem dX12_line_56 : decode cX12_line 56 = .ok (.iconst 0, 1) := by decide +kernel
theorem dX12_line_57 : decode cX12_line 57 = .ok (.istore 9, 2) := by decide +kernel
theorem dX12_line_59 : decode cX12_line 59 = .ok (.iconst (-1), 1) := by decide +kernel
theorem dX12_line_60 : decode cX12_line 60 = .ok (.istore 10, 2) := by decide +kernel
theorem dX12_line_62 : decode cX12_line 62 = .ok (.iload 8, 2) := by decide +kernel
theorem dX12_line_64 : decode cX12_line 64 = .ok (.iconst (-1), 1) := by decide +kernel
theorem dX12_line_65 : decode cX12_line 65 = .ok (.if_icmp .eq 168, 3) := by decide +kernel
theorem dX12_line_68 : decode cX12_line 68 = .ok (.iload 10, 2) := by decide +kernel
theorem dX12_line_70 : decode cX12_line 70 = .ok (.iconst (-1), 1) := by decide +kernel
theorem dX12_line_71 : decode cX12_line 71 = .ok (.if_icmp .ne 162, 3) := by decide +kernel
theorem dX12_line_74 : decode cX12_line 74 = .ok (.iload_n 3, 1) := by decide +kernel
theorem dX12_line_75 : decode cX12_line 75 = .ok (.iload 9, 2) := by decide +kernel
theorem dX12_line_77 : decode cX12_line 77 = .ok (.if_icmp .lt 156, 3) := by decide +kernel
theorem dX12_line_80 : decode cX12_line 80 = .ok (.aload_n 0, 1) := by decide +kernel
theorem dX12_line_81 : decode cX12_line 81 = .ok (.iload 7, 2) := by decide +kernel
theorem dX12_line_83 : decode cX12_line 83 = .ok (.iload 8, 2) := by decide +kernel
theorem dX12_line_85 : decode cX12_line 85 = .ok (.invokevirtual 292, 3) := by decide +kernel
theorem dX12_line_88 : decode cX12_line 88 = .ok (.aload_n 0, 1) := by decide +kernel
theorem dX12_line_89 : decode cX12_line 89 = .ok (.iload 7, 2) := by decide +kernel
theorem dX12_line_91 : decode cX12_line 91 = .ok (.putfield 256, 3) := by decide +kernel
theorem dX12_line_94 : decode cX12_line 94 = .ok (.aload_n 0, 1) := by decide +kernel
theorem dX12_line_95 : decode cX12_line 95 = .ok (.iconst 0, 1) := by decide +kernel
theorem dX12_line_96 : decode cX12_line 96 = .ok (.putfield 127, 3) := by decide +kernel
theorem dX12_line_99 : decode cX12_line 99 = .ok (.iconst 0, 1) := by decide +kernel
theorem dX12_line_100 : decode cX12_line 100 = .ok (.istore 11, 2) := by decide +kernel
theorem dX12_line_102 : decode cX12_line 102 = .ok (.iload 11, 2) := by decide +kernel
theorem dX12_line_104 : decode cX12_line 104 = .ok (.aload_n 0, 1) := by decide +kernel
theorem dX12_line_105 : decode cX12_line 105 = .ok (.getfield 253, 3) := by decide +kernel
theorem dX12_line_108 : decode cX12_line 108 = .ok (.if_icmp .ge 97, 3) := by decide +kernel
theorem dX12_line_111 : decode cX12_line 111 = .ok (.aload_n 0, 1) := by decide +kernel
theorem dX12_line_112 : decode cX12_line 112 = .ok (.iload 5, 2) := by decide +kernel
theorem dX12_line_114 : decode cX12_line 114 = .ok (.iload 11, 2) := by decide +kernel
theorem dX12_line_116 : decode cX12_line 116 = .ok (.invokevirtual 295, 3) := by decide +kernel
theorem dX12_line_119 : decode cX12_line 119 = .ok (.iconst 4, 1) := by decide +kernel
theorem dX12_line_120 : decode cX12_line 120 = .ok (.aload_n 0, 1) := by decide +kernel
theorem dX12_line_121 : decode cX12_line 121 = .ok (.getfield 60, 3) := by decide +kernel
theorem dX12_line_124 : decode cX12_line 124 = .ok (.iload 11, 2) := by decide +kernel
theorem dX12_line_126 : decode cX12_line 126 = .ok (.iaload, 1) := by decide +kernel
theorem dX12_line_127 : decode cX12_line 127 = .ok (.imul, 1) := by decide +kernel
theorem dX12_line_128 : decode cX12_line 128 = .ok (.aload_n 0, 1) := by decide +kernel
theorem dX12_line_129 : decode cX12_line 129 = .ok (.getfield 268, 3) := by decide +kernel
theorem dX12_line_132 : decode cX12_line 132 = .ok (.iadd, 1) := by decide +kernel
theorem dX12_line_133 : decode cX12_line 133 = .ok (.istore 12, 2) := by decide +kernel
theorem dX12_line_135 : decode cX12_line 135 = .ok (.aload_n 0, 1) := by decide +kernel
theorem dX12_line_136 : decode cX12_line 136 = .ok (.dup, 1) := by decide +kernel
theorem dX12_line_137 : decode cX12_line 137 = .ok (.getfield 256, 3) := by decide +kernel
theorem dX12_line_140 : decode cX12_line 140 = .ok (.iconst 1, 1) := by decide +kernel
theorem dX12_line_141 : decode cX12_line 141 = .ok (.iload 12, 2) := by decide +kernel
theorem dX12_line_143 : decode cX12_line 143 = .ok (.ishl, 1) := by decide +kernel
theorem dX12_line_144 : decode cX12_line 144 = .ok (.iconst (-1), 1) := by decide +kernel
theorem dX12_line_145 : decode cX12_line 145 = .ok (.ixor, 1) := by decide +kernel
theorem dX12_line_146 : decode cX12_line 146 = .ok (.iand, 1) := by decide +kernel
theorem dX12_line_147 : decode cX12_line 147 = .ok (.putfield 256, 3) := by decide +kernel
theorem dX12_line_150 : decode cX12_line 150 = .ok (.aload_n 0, 1) := by decide +kernel
theorem dX12_line_151 : decode cX12_line 151 = .ok (.getfield 39, 3) := by decide +kernel
theorem dX12_line_154 : decode cX12_line 154 = .ok (.aload_n 0, 1) := by decide +kernel
theorem dX12_line_155 : decode cX12_line 155 = .ok (.getfield 127, 3) := by decide +kernel
theorem dX12_line_158 : decode cX12_line 158 = .ok (.aload_n 0, 1) := by decide +kernel
theorem dX12_line_159 : decode cX12_line 159 = .ok (.getfield 42, 3) := by decide +kernel
theorem dX12_line_162 : decode cX12_line 162 = .ok (.iload 12, 2) := by decide +kernel
theorem dX12_line_164 : decode cX12_line 164 = .ok (.iaload, 1) := by decide +kernel
theorem dX12_line_165 : decode cX12_line 165 = .ok (.iastore, 1) := by decide +kernel
theorem dX12_line_166 : decode cX12_line 166 = .ok (.aload_n 0, 1) := by decide +kernel
theorem dX12_line_167 : decode cX12_line 167 = .ok (.dup, 1) := by decide +kernel
theorem dX12_line_168 : decode cX12_line 168 = .ok (.getfield 127, 3) := by decide +kernel
theorem dX12_line_171 : decode cX12_line 171 = .ok (.iconst 1, 1) := by decide +kernel
theorem dX12_line_172 : decode cX12_line 172 = .ok (.iadd, 1) := by decide +kernel
theorem dX12_line_173 : decode cX12_line 173 = .ok (.putfield 127, 3) := by decide +kernel
theorem dX12_line_176 : decode cX12_line 176 = .ok (.iload 9, 2) := by decide +kernel
theorem dX12_line_178 : decode cX12_line 178 = .ok (.iload_n 3, 1) := by decide +kernel
theorem dX12_line_179 : decode cX12_line 179 = .ok (.if_icmp .ne 13, 3) := by decide +kernel
theorem dX12_line_182 : decode cX12_line 182 = .ok (.aload_n 0, 1) := by decide +kernel
theorem dX12_line_183 : decode cX12_line 183 = .ok (.getfield 42, 3) := by decide +kernel
theorem dX12_line_186 : decode cX12_line 186 = .ok (.iload 12, 2) := by decide +kernel
theorem dX12_line_188 : decode cX12_line 188 = .ok (.iaload, 1) := by decide +kernel
theorem dX12_line_189 : decode cX12_line 189 = .ok (.goto 5, 3) := by decide +kernel
theorem dX12_line_192 : decode cX12_line 192 = .ok (.iload 10, 2) := by decide +kernel
theorem dX12_line_194 : decode cX12_line 194 = .ok (.istore 10, 2) := by decide +kernel
theorem dX12_line_196 : decode cX12_line 196 = .ok (.iinc 9 1, 3) := by decide +kernel
theorem dX12_line_199 : decode cX12_line 199 = .ok (.iinc 11 1, 3) := by decide +kernel
theorem dX12_line_202 : decode cX12_line 202 = .ok (.goto (-100), 3) := by decide +kernel
theorem dX12_line_205 : decode cX12_line 205 = .ok (.aload_n 0, 1) := by decide +kernel
theorem dX12_line_206 : decode cX12_line 206 = .ok (.getfield 256, 3) := by decide +kernel
theorem dX12_line_209 : decode cX12_line 209 = .ok (.istore 7, 2) := by decide +kernel
theorem dX12_line_211 : decode cX12_line 211 = .ok (.aload_n 0, 1) := by decide +kernel
theorem dX12_line_212 : decode cX12_line 212 = .ok (.iload 7, 2) := by decide +kernel
theorem dX12_line_214 : decode cX12_line 214 = .ok (.aload_n 0, 1) := by decide +kernel
theorem dX12_line_215 : decode cX12_line 215 = .ok (.getfield 60, 3) := by decide +kernel
theorem dX12_line_218 : decode cX12_line 218 = .ok (.aload_n 0, 1) := by decide +kernel
theorem dX12_line_219 : decode cX12_line 219 = .ok (.iload 5, 2) := by decide +kernel
theorem dX12_line_221 : decode cX12_line 221 = .ok (.invokevirtual 220, 3) := by decide +kernel
theorem dX12_line_224 : decode cX12_line 224 = .ok (.iaload, 1) := by decide +kernel
theorem dX12_line_225 : decode cX12_line 225 = .ok (.invokevirtual 274, 3) := by decide +kernel
theorem dX12_line_228 : decode cX12_line 228 = .ok (.istore 8, 2) := by decide +kernel
theorem dX12_line_230 : decode cX12_line 230 = .ok (.goto (-168), 3) := by decide +kernel
theorem dX12_line_233 : decode cX12_line 233 = .ok (.aload_n 0, 1) := by decide +kernel
theorem dX12_line_234 : decode cX12_line 234 = .ok (.iconst 0, 1) := by decide +kernel
theorem dX12_line_235 : decode cX12_line 235 = .ok (.putfield 78, 3) := by decide +kernel
theorem dX12_line_238 : decode cX12_line 238 = .ok (.iload 10, 2) := by decide +kernel
theorem dX12_line_240 : decode cX12_line 240 = .ok (.ireturn, 1) := by decide +kernel
theorem dX12_doClaim_0 : decode cX12_doClaim 0 = .ok (.iconst 0, 1) := by decide +kernel
theorem dX12_doClaim_1 : decode cX12_doClaim 1 = .ok (.istore 5, 2) := by decide +kernel
theorem dX12_doClaim_3 : decode cX12_doClaim 3 = .ok (.iconst 0, 1) := by decide +kernel
theorem dX12_doClaim_4 : decode cX12_doClaim 4 = .ok (.istore 6, 2) := by decide +kernel
theorem dX12_doClaim_6 : decode cX12_doClaim 6 = .ok (.iload 6, 2) := by decide +kernel
theorem dX12_doClaim_8 : decode cX12_doClaim 8 = .ok (.iconst 4, 1) := by decide +kernel
theorem dX12_doClaim_9 : decode cX12_doClaim 9 = .ok (.if_icmp .ge 28, 3) := by decide +kernel
theorem dX12_doClaim_12 : decode cX12_doClaim 12 = .ok (.iload 5, 2) := by decide +kernel
theorem dX12_doClaim_14 : decode cX12_doClaim 14 = .ok (.aload_n 0, 1) := by decide +kernel
theorem dX12_doClaim_15 : decode cX12_doClaim 15 = .ok (.getfield 8, 3) := by decide +kernel
theorem dX12_doClaim_18 : decode cX12_doClaim 18 = .ok (.iload_n 1, 1) := by decide +kernel
theorem dX12_doClaim_19 : decode cX12_doClaim 19 = .ok (.bipush 22, 2) := by decide +kernel
theorem dX12_doClaim_21 : decode cX12_doClaim 21 = .ok (.iadd, 1) := by decide +kernel
theorem dX12_doClaim_22 : decode cX12_doClaim 22 = .ok (.iload 6, 2) := by decide +kernel
theorem dX12_doClaim_24 : decode cX12_doClaim 24 = .ok (.iadd, 1) := by decide +kernel
theorem dX12_doClaim_25 : decode cX12_doClaim 25 = .ok (.iaload, 1) := by decide +kernel
theorem dX12_doClaim_26 : decode cX12_doClaim 26 = .ok (.invokestatic 247, 3) := by decide +kernel
theorem dX12_doClaim_29 : decode cX12_doClaim 29 = .ok (.istore 5, 2) := by decide +kernel
theorem dX12_doClaim_31 : decode cX12_doClaim 31 = .ok (.iinc 6 1, 3) := by decide +kernel
theorem dX12_doClaim_34 : decode cX12_doClaim 34 = .ok (.goto (-28), 3) := by decide +kernel
theorem dX12_doClaim_37 : decode cX12_doClaim 37 = .ok (.iconst 1, 1) := by decide +kernel
theorem dX12_doClaim_38 : decode cX12_doClaim 38 = .ok (.iload_n 3, 1) := by decide +kernel
theorem dX12_doClaim_39 : decode cX12_doClaim 39 = .ok (.isub, 1) := by decide +kernel
theorem dX12_doClaim_40 : decode cX12_doClaim 40 = .ok (.istore 6, 2) := by decide +kernel
theorem dX12_doClaim_42 : decode cX12_doClaim 42 = .ok (.aload_n 0, 1) := by decide +kernel
theorem dX12_doClaim_43 : decode cX12_doClaim 43 = .ok (.getfield 8, 3) := by decide +kernel
theorem dX12_doClaim_46 : decode cX12_doClaim 46 = .ok (.iload_n 1, 1) := by decide +kernel
theorem dX12_doClaim_47 : decode cX12_doClaim 47 = .ok (.bipush 15, 2) := by decide +kernel
theorem dX12_doClaim_49 : decode cX12_doClaim 49 = .ok (.iadd, 1) := by decide +kernel
theorem dX12_doClaim_50 : decode cX12_doClaim 50 = .ok (.iload_n 3, 1) := by decide +kernel
theorem dX12_doClaim_51 : decode cX12_doClaim 51 = .ok (.iadd, 1) := by decide +kernel
theorem dX12_doClaim_52 : decode cX12_doClaim 52 = .ok (.dup2, 1) := by decide +kernel
theorem dX12_doClaim_53 : decode cX12_doClaim 53 = .ok (.iaload, 1) := by decide +kernel
theorem dX12_doClaim_54 : decode cX12_doClaim 54 = .ok (.iload 4, 2) := by decide +kernel
theorem dX12_doClaim_56 : decode cX12_doClaim 56 = .ok (.iadd, 1) := by decide +kernel
theorem dX12_doClaim_57 : decode cX12_doClaim 57 = .ok (.iastore, 1) := by decide +kernel
theorem dX12_doClaim_58 : decode cX12_doClaim 58 = .ok (.aload_n 0, 1) := by decide +kernel
theorem dX12_doClaim_59 : decode cX12_doClaim 59 = .ok (.getfield 8, 3) := by decide +kernel
theorem dX12_doClaim_62 : decode cX12_doClaim 62 = .ok (.iload_n 1, 1) := by decide +kernel
theorem dX12_doClaim_63 : decode cX12_doClaim 63 = .ok (.bipush 17, 2) := by decide +kernel
theorem dX12_doClaim_65 : decode cX12_doClaim 65 = .ok (.iadd, 1) := by decide +kernel
theorem dX12_doClaim_66 : decode cX12_doClaim 66 = .ok (.iload_n 3, 1) := by decide +kernel
theorem dX12_doClaim_67 : decode cX12_doClaim 67 = .ok (.iadd, 1) := by decide +kernel
theorem dX12_doClaim_68 : decode cX12_doClaim 68 = .ok (.dup2, 1) := by decide +kernel
theorem dX12_doClaim_69 : decode cX12_doClaim 69 = .ok (.iaload, 1) := by decide +kernel
theorem dX12_doClaim_70 : decode cX12_doClaim 70 = .ok (.iload 4, 2) := by decide +kernel
theorem dX12_doClaim_72 : decode cX12_doClaim 72 = .ok (.iadd, 1) := by decide +kernel
theorem dX12_doClaim_73 : decode cX12_doClaim 73 = .ok (.iastore, 1) := by decide +kernel
theorem dX12_doClaim_74 : decode cX12_doClaim 74 = .ok (.aload_n 0, 1) := by decide +kernel
theorem dX12_doClaim_75 : decode cX12_doClaim 75 = .ok (.getfield 8, 3) := by decide +kernel
theorem dX12_doClaim_78 : decode cX12_doClaim 78 = .ok (.iload_n 1, 1) := by decide +kernel
theorem dX12_doClaim_79 : decode cX12_doClaim 79 = .ok (.bipush 15, 2) := by decide +kernel
theorem dX12_doClaim_81 : decode cX12_doClaim 81 = .ok (.iadd, 1) := by decide +kernel
theorem dX12_doClaim_82 : decode cX12_doClaim 82 = .ok (.iload 6, 2) := by decide +kernel
theorem dX12_doClaim_84 : decode cX12_doClaim 84 = .ok (.iadd, 1) := by decide +kernel
theorem dX12_doClaim_85 : decode cX12_doClaim 85 = .ok (.dup2, 1) := by decide +kernel
theorem dX12_doClaim_86 : decode cX12_doClaim 86 = .ok (.iaload, 1) := by decide +kernel
theorem dX12_doClaim_87 : decode cX12_doClaim 87 = .ok (.iload 5, 2) := by decide +kernel
theorem dX12_doClaim_89 : decode cX12_doClaim 89 = .ok (.iload 4, 2) := by decide +kernel
theorem dX12_doClaim_91 : decode cX12_doClaim 91 = .ok (.isub, 1) := by decide +kernel
theorem dX12_doClaim_92 : decode cX12_doClaim 92 = .ok (.iadd, 1) := by decide +kernel
theorem dX12_doClaim_93 : decode cX12_doClaim 93 = .ok (.iastore, 1) := by decide +kernel
theorem dX12_doClaim_94 : decode cX12_doClaim 94 = .ok (.aload_n 0, 1) := by decide +kernel
theorem dX12_doClaim_95 : decode cX12_doClaim 95 = .ok (.getfield 8, 3) := by decide +kernel
theorem dX12_doClaim_98 : decode cX12_doClaim 98 = .ok (.iload_n 1, 1) := by decide +kernel
theorem dX12_doClaim_99 : decode cX12_doClaim 99 = .ok (.bipush 17, 2) := by decide +kernel
theorem dX12_doClaim_101 : decode cX12_doClaim 101 = .ok (.iadd, 1) := by decide +kernel
theorem dX12_doClaim_102 : decode cX12_doClaim 102 = .ok (.iload 6, 2) := by decide +kernel
theorem dX12_doClaim_104 : decode cX12_doClaim 104 = .ok (.iadd, 1) := by decide +kernel
theorem dX12_doClaim_105 : decode cX12_doClaim 105 = .ok (.dup2, 1) := by decide +kernel
theorem dX12_doClaim_106 : decode cX12_doClaim 106 = .ok (.iaload, 1) := by decide +kernel
theorem dX12_doClaim_107 : decode cX12_doClaim 107 = .ok (.iload 5, 2) := by decide +kernel
theorem dX12_doClaim_109 : decode cX12_doClaim 109 = .ok (.iload 4, 2) := by decide +kernel
theorem dX12_doClaim_111 : decode cX12_doClaim 111 = .ok (.isub, 1) := by decide +kernel
theorem dX12_doClaim_112 : decode cX12_doClaim 112 = .ok (.iadd, 1) := by decide +kernel
theorem dX12_doClaim_113 : decode cX12_doClaim 113 = .ok (.iastore, 1) := by decide +kernel
theorem dX12_doClaim_114 : decode cX12_doClaim 114 = .ok (.iconst 0, 1) := by decide +kernel
theorem dX12_doClaim_115 : decode cX12_doClaim 115 = .ok (.istore 7, 2) := by decide +kernel
theorem dX12_doClaim_117 : decode cX12_doClaim 117 = .ok (.iload 7, 2) := by decide +kernel
theorem dX12_doClaim_119 : decode cX12_doClaim 119 = .ok (.iconst 4, 1) := by decide +kernel
theorem dX12_doClaim_120 : decode cX12_doClaim 120 = .ok (.if_icmp .ge 96, 3) := by decide +kernel
theorem dX12_doClaim_123 : decode cX12_doClaim 123 = .ok (.iconst 0, 1) := by decide +kernel
theorem dX12_doClaim_124 : decode cX12_doClaim 124 = .ok (.istore 8, 2) := by decide +kernel
theorem dX12_doClaim_126 : decode cX12_doClaim 126 = .ok (.iload 8, 2) := by decide +kernel
theorem dX12_doClaim_128 : decode cX12_doClaim 128 = .ok (.aload_n 0, 1) := by decide +kernel
theorem dX12_doClaim_129 : decode cX12_doClaim 129 = .ok (.getfield 8, 3) := by decide +kernel
theorem dX12_doClaim_132 : decode cX12_doClaim 132 = .ok (.iload_n 1, 1) := by decide +kernel
theorem dX12_doClaim_133 : decode cX12_doClaim 133 = .ok (.bipush 22, 2) := by decide +kernel
theorem dX12_doClaim_135 : decode cX12_doClaim 135 = .ok (.iadd, 1) := by decide +kernel
theorem dX12_doClaim_136 : decode cX12_doClaim 136 = .ok (.iload 7, 2) := by decide +kernel
theorem dX12_doClaim_138 : decode cX12_doClaim 138 = .ok (.iadd, 1) := by decide +kernel
theorem dX12_doClaim_139 : decode cX12_doClaim 139 = .ok (.iaload, 1) := by decide +kernel
theorem dX12_doClaim_140 : decode cX12_doClaim 140 = .ok (.if_icmp .ge 42, 3) := by decide +kernel
theorem dX12_doClaim_143 : decode cX12_doClaim 143 = .ok (.aload_n 0, 1) := by decide +kernel
theorem dX12_doClaim_144 : decode cX12_doClaim 144 = .ok (.getfield 8, 3) := by decide +kernel
theorem dX12_doClaim_147 : decode cX12_doClaim 147 = .ok (.iload_n 1, 1) := by decide +kernel
theorem dX12_doClaim_148 : decode cX12_doClaim 148 = .ok (.bipush 110, 2) := by decide +kernel
theorem dX12_doClaim_150 : decode cX12_doClaim 150 = .ok (.iadd, 1) := by decide +kernel
theorem dX12_doClaim_151 : decode cX12_doClaim 151 = .ok (.aload_n 0, 1) := by decide +kernel
theorem dX12_doClaim_152 : decode cX12_doClaim 152 = .ok (.getfield 8, 3) := by decide +kernel
theorem dX12_doClaim_155 : decode cX12_doClaim 155 = .ok (.iload_n 1, 1) := by decide +kernel
theorem dX12_doClaim_156 : decode cX12_doClaim 156 = .ok (.sipush 230, 3) := by decide +kernel
theorem dX12_doClaim_159 : decode cX12_doClaim 159 = .ok (.iadd, 1) := by decide +kernel
theorem dX12_doClaim_160 : decode cX12_doClaim 160 = .ok (.bipush 60, 2) := by decide +kernel
theorem dX12_doClaim_162 : decode cX12_doClaim 162 = .ok (.iload 7, 2) := by decide +kernel
