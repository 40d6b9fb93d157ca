theorem dX12_doClaim_164 : decode cX12_doClaim 164 = .ok (.imul, 1) := by decide +kernel
theorem dX12_doClaim_165 : decode cX12_doClaim 165 = .ok (.iadd, 1) := by decide +kernel
theorem dX12_doClaim_166 : decode cX12_doClaim 166 = .ok (.iload 8, 2) := by decide +kernel
theorem dX12_doClaim_168 : decode cX12_doClaim 168 = .ok (.iadd, 1) := by decide +kernel
theorem dX12_doClaim_169 : decode cX12_doClaim 169 = .ok (.iaload, 1) := by decide +kernel
theorem dX12_doClaim_170 : decode cX12_doClaim 170 = .ok (.iadd, 1) := by decide +kernel
theorem dX12_doClaim_171 : decode cX12_doClaim 171 = .ok (.bipush 6, 2) := by decide +kernel
theorem dX12_doClaim_173 : decode cX12_doClaim 173 = .ok (.iload_n 3, 1) := by decide +kernel
theorem dX12_doClaim_174 : decode cX12_doClaim 174 = .ok (.iadd, 1) := by decide +kernel
theorem dX12_doClaim_175 : decode cX12_doClaim 175 = .ok (.iastore, 1) := by decide +kernel
theorem dX12_doClaim_176 : decode cX12_doClaim 176 = .ok (.iinc 8 1, 3) := by decide +kernel
theorem dX12_doClaim_179 : decode cX12_doClaim 179 = .ok (.goto (-53), 3) := by decide +kernel
theorem dX12_doClaim_182 : decode cX12_doClaim 182 = .ok (.aload_n 0, 1) := by decide +kernel
theorem dX12_doClaim_183 : decode cX12_doClaim 183 = .ok (.getfield 8, 3) := by decide +kernel
theorem dX12_doClaim_186 : decode cX12_doClaim 186 = .ok (.iload_n 1, 1) := by decide +kernel
theorem dX12_doClaim_187 : decode cX12_doClaim 187 = .ok (.bipush 22, 2) := by decide +kernel
theorem dX12_doClaim_189 : decode cX12_doClaim 189 = .ok (.iadd, 1) := by decide +kernel
theorem dX12_doClaim_190 : decode cX12_doClaim 190 = .ok (.iload 7, 2) := by decide +kernel
theorem dX12_doClaim_192 : decode cX12_doClaim 192 = .ok (.iadd, 1) := by decide +kernel
theorem dX12_doClaim_193 : decode cX12_doClaim 193 = .ok (.aload_n 0, 1) := by decide +kernel
theorem dX12_doClaim_194 : decode cX12_doClaim 194 = .ok (.getfield 8, 3) := by decide +kernel
theorem dX12_doClaim_197 : decode cX12_doClaim 197 = .ok (.iload_n 1, 1) := by decide +kernel
theorem dX12_doClaim_198 : decode cX12_doClaim 198 = .ok (.bipush 22, 2) := by decide +kernel
theorem dX12_doClaim_200 : decode cX12_doClaim 200 = .ok (.iadd, 1) := by decide +kernel
theorem dX12_doClaim_201 : decode cX12_doClaim 201 = .ok (.iload 7, 2) := by decide +kernel
theorem dX12_doClaim_203 : decode cX12_doClaim 203 = .ok (.iadd, 1) := by decide +kernel
theorem dX12_doClaim_204 : decode cX12_doClaim 204 = .ok (.iaload, 1) := by decide +kernel
theorem dX12_doClaim_205 : decode cX12_doClaim 205 = .ok (.iconst 0, 1) := by decide +kernel
theorem dX12_doClaim_206 : decode cX12_doClaim 206 = .ok (.invokestatic 250, 3) := by decide +kernel
theorem dX12_doClaim_209 : decode cX12_doClaim 209 = .ok (.iastore, 1) := by decide +kernel
theorem dX12_doClaim_210 : decode cX12_doClaim 210 = .ok (.iinc 7 1, 3) := by decide +kernel
theorem dX12_doClaim_213 : decode cX12_doClaim 213 = .ok (.goto (-96), 3) := by decide +kernel
theorem dX12_doClaim_216 : decode cX12_doClaim 216 = .ok (.aload_n 0, 1) := by decide +kernel
theorem dX12_doClaim_217 : decode cX12_doClaim 217 = .ok (.iload_n 1, 1) := by decide +kernel
theorem dX12_doClaim_218 : decode cX12_doClaim 218 = .ok (.iload_n 2, 1) := by decide +kernel
theorem dX12_doClaim_219 : decode cX12_doClaim 219 = .ok (.invokevirtual 226, 3) := by decide +kernel
theorem dX12_doClaim_222 : decode cX12_doClaim 222 = .ok (.return_, 1) := by decide +kernel
theorem dX12_claim_0 : decode cX12_claim 0 = .ok (.aload_n 0, 1) := by decide +kernel
theorem dX12_claim_1 : decode cX12_claim 1 = .ok (.iload_n 1, 1) := by decide +kernel
theorem dX12_claim_2 : decode cX12_claim 2 = .ok (.invokevirtual 107, 3) := by decide +kernel
theorem dX12_claim_5 : decode cX12_claim 5 = .ok (.ifCond .eq 12, 3) := by decide +kernel
theorem dX12_claim_8 : decode cX12_claim 8 = .ok (.iload_n 2, 1) := by decide +kernel
theorem dX12_claim_9 : decode cX12_claim 9 = .ok (.iconst 0, 1) := by decide +kernel
theorem dX12_claim_10 : decode cX12_claim 10 = .ok (.iconst 1, 1) := by decide +kernel
theorem dX12_claim_11 : decode cX12_claim 11 = .ok (.invokestatic 91, 3) := by decide +kernel
theorem dX12_claim_14 : decode cX12_claim 14 = .ok (.ifCond .ne 6, 3) := by decide +kernel
theorem dX12_claim_17 : decode cX12_claim 17 = .ok (.bipush (-2), 2) := by decide +kernel
theorem dX12_claim_19 : decode cX12_claim 19 = .ok (.ireturn, 1) := by decide +kernel
theorem dX12_claim_20 : decode cX12_claim 20 = .ok (.iload_n 3, 1) := by decide +kernel
theorem dX12_claim_21 : decode cX12_claim 21 = .ok (.iconst 0, 1) := by decide +kernel
theorem dX12_claim_22 : decode cX12_claim 22 = .ok (.iconst 4, 1) := by decide +kernel
theorem dX12_claim_23 : decode cX12_claim 23 = .ok (.invokestatic 91, 3) := by decide +kernel
theorem dX12_claim_26 : decode cX12_claim 26 = .ok (.ifCond .ne 6, 3) := by decide +kernel
theorem dX12_claim_29 : decode cX12_claim 29 = .ok (.bipush (-3), 2) := by decide +kernel
theorem dX12_claim_31 : decode cX12_claim 31 = .ok (.ireturn, 1) := by decide +kernel
theorem dX12_claim_32 : decode cX12_claim 32 = .ok (.sipush 1290, 3) := by decide +kernel
theorem dX12_claim_35 : decode cX12_claim 35 = .ok (.iload_n 1, 1) := by decide +kernel
theorem dX12_claim_36 : decode cX12_claim 36 = .ok (.imul, 1) := by decide +kernel
theorem dX12_claim_37 : decode cX12_claim 37 = .ok (.istore 4, 2) := by decide +kernel
theorem dX12_claim_39 : decode cX12_claim 39 = .ok (.aload_n 0, 1) := by decide +kernel
theorem dX12_claim_40 : decode cX12_claim 40 = .ok (.iload 4, 2) := by decide +kernel
theorem dX12_claim_42 : decode cX12_claim 42 = .ok (.invokevirtual 301, 3) := by decide +kernel
theorem dX12_claim_45 : decode cX12_claim 45 = .ok (.ifCond .ne 6, 3) := by decide +kernel
theorem dX12_claim_48 : decode cX12_claim 48 = .ok (.bipush (-4), 2) := by decide +kernel
theorem dX12_claim_50 : decode cX12_claim 50 = .ok (.ireturn, 1) := by decide +kernel
theorem dX12_claim_51 : decode cX12_claim 51 = .ok (.aload_n 0, 1) := by decide +kernel
theorem dX12_claim_52 : decode cX12_claim 52 = .ok (.iload_n 1, 1) := by decide +kernel
theorem dX12_claim_53 : decode cX12_claim 53 = .ok (.iload 4, 2) := by decide +kernel
theorem dX12_claim_55 : decode cX12_claim 55 = .ok (.iload_n 2, 1) := by decide +kernel
theorem dX12_claim_56 : decode cX12_claim 56 = .ok (.invokevirtual 307, 3) := by decide +kernel
theorem dX12_claim_59 : decode cX12_claim 59 = .ok (.iload_n 3, 1) := by decide +kernel
theorem dX12_claim_60 : decode cX12_claim 60 = .ok (.if_icmp .ge 5, 3) := by decide +kernel
theorem dX12_claim_63 : decode cX12_claim 63 = .ok (.iconst 0, 1) := by decide +kernel
theorem dX12_claim_64 : decode cX12_claim 64 = .ok (.ireturn, 1) := by decide +kernel
theorem dX12_claim_65 : decode cX12_claim 65 = .ok (.aload_n 0, 1) := by decide +kernel
theorem dX12_claim_66 : decode cX12_claim 66 = .ok (.iload_n 1, 1) := by decide +kernel
theorem dX12_claim_67 : decode cX12_claim 67 = .ok (.invokevirtual 165, 3) := by decide +kernel
theorem dX12_claim_70 : decode cX12_claim 70 = .ok (.aload_n 0, 1) := by decide +kernel
theorem dX12_claim_71 : decode cX12_claim 71 = .ok (.iload 4, 2) := by decide +kernel
theorem dX12_claim_73 : decode cX12_claim 73 = .ok (.bipush 6, 2) := by decide +kernel
theorem dX12_claim_75 : decode cX12_claim 75 = .ok (.iload_n 2, 1) := by decide +kernel
theorem dX12_claim_76 : decode cX12_claim 76 = .ok (.iload_n 3, 1) := by decide +kernel
theorem dX12_claim_77 : decode cX12_claim 77 = .ok (.iconst 0, 1) := by decide +kernel
theorem dX12_claim_78 : decode cX12_claim 78 = .ok (.invokevirtual 171, 3) := by decide +kernel
theorem dX12_claim_81 : decode cX12_claim 81 = .ok (.aload_n 0, 1) := by decide +kernel
theorem dX12_claim_82 : decode cX12_claim 82 = .ok (.iload 4, 2) := by decide +kernel
theorem dX12_claim_84 : decode cX12_claim 84 = .ok (.iload_n 1, 1) := by decide +kernel
theorem dX12_claim_85 : decode cX12_claim 85 = .ok (.iload_n 2, 1) := by decide +kernel
theorem dX12_claim_86 : decode cX12_claim 86 = .ok (.iload_n 3, 1) := by decide +kernel
theorem dX12_claim_87 : decode cX12_claim 87 = .ok (.invokevirtual 310, 3) := by decide +kernel
theorem dX12_claim_90 : decode cX12_claim 90 = .ok (.iconst 1, 1) := by decide +kernel
theorem dX12_claim_91 : decode cX12_claim 91 = .ok (.ireturn, 1) := by decide +kernel
theorem dX12_undo_0 : decode cX12_undo 0 = .ok (.aload_n 0, 1) := by decide +kernel
theorem dX12_undo_1 : decode cX12_undo 1 = .ok (.iload_n 1, 1) := by decide +kernel
theorem dX12_undo_2 : decode cX12_undo 2 = .ok (.invokevirtual 107, 3) := by decide +kernel
theorem dX12_undo_5 : decode cX12_undo 5 = .ok (.ifCond .ne 6, 3) := by decide +kernel
theorem dX12_undo_8 : decode cX12_undo 8 = .ok (.bipush (-2), 2) := by decide +kernel
theorem dX12_undo_10 : decode cX12_undo 10 = .ok (.ireturn, 1) := by decide +kernel
theorem dX12_undo_11 : decode cX12_undo 11 = .ok (.aload_n 0, 1) := by decide +kernel
theorem dX12_undo_12 : decode cX12_undo 12 = .ok (.getfield 18, 3) := by decide +kernel
theorem dX12_undo_15 : decode cX12_undo 15 = .ok (.iload_n 1, 1) := by decide +kernel
theorem dX12_undo_16 : decode cX12_undo 16 = .ok (.iaload, 1) := by decide +kernel
theorem dX12_undo_17 : decode cX12_undo 17 = .ok (.ifCond .ne 6, 3) := by decide +kernel
theorem dX12_undo_20 : decode cX12_undo 20 = .ok (.bipush (-4), 2) := by decide +kernel
theorem dX12_undo_22 : decode cX12_undo 22 = .ok (.ireturn, 1) := by decide +kernel
theorem dX12_undo_23 : decode cX12_undo 23 = .ok (.aload_n 0, 1) := by decide +kernel
theorem dX12_undo_24 : decode cX12_undo 24 = .ok (.getfield 18, 3) := by decide +kernel
theorem dX12_undo_27 : decode cX12_undo 27 = .ok (.iload_n 1, 1) := by decide +kernel
theorem dX12_undo_28 : decode cX12_undo 28 = .ok (.dup2, 1) := by decide +kernel
theorem dX12_undo_29 : decode cX12_undo 29 = .ok (.iaload, 1) := by decide +kernel
theorem dX12_undo_30 : decode cX12_undo 30 = .ok (.iconst 1, 1) := by decide +kernel
theorem dX12_undo_31 : decode cX12_undo 31 = .ok (.isub, 1) := by decide +kernel
theorem dX12_undo_32 : decode cX12_undo 32 = .ok (.iastore, 1) := by decide +kernel
theorem dX12_undo_33 : decode cX12_undo 33 = .ok (.aload_n 0, 1) := by decide +kernel
theorem dX12_undo_34 : decode cX12_undo 34 = .ok (.iconst 5, 1) := by decide +kernel
theorem dX12_undo_35 : decode cX12_undo 35 = .ok (.bipush 8, 2) := by decide +kernel
theorem dX12_undo_37 : decode cX12_undo 37 = .ok (.iload_n 1, 1) := by decide +kernel
theorem dX12_undo_38 : decode cX12_undo 38 = .ok (.imul, 1) := by decide +kernel
theorem dX12_undo_39 : decode cX12_undo 39 = .ok (.iadd, 1) := by decide +kernel
theorem dX12_undo_40 : decode cX12_undo 40 = .ok (.aload_n 0, 1) := by decide +kernel
theorem dX12_undo_41 : decode cX12_undo 41 = .ok (.getfield 18, 3) := by decide +kernel
theorem dX12_undo_44 : decode cX12_undo 44 = .ok (.iload_n 1, 1) := by decide +kernel
theorem dX12_undo_45 : decode cX12_undo 45 = .ok (.iaload, 1) := by decide +kernel
theorem dX12_undo_46 : decode cX12_undo 46 = .ok (.iadd, 1) := by decide +kernel
theorem dX12_undo_47 : decode cX12_undo 47 = .ok (.iload_n 1, 1) := by decide +kernel
theorem dX12_undo_48 : decode cX12_undo 48 = .ok (.invokevirtual 95, 3) := by decide +kernel
theorem dX12_undo_51 : decode cX12_undo 51 = .ok (.aload_n 0, 1) := by decide +kernel
theorem dX12_undo_52 : decode cX12_undo 52 = .ok (.iconst (-1), 1) := by decide +kernel
theorem dX12_undo_53 : decode cX12_undo 53 = .ok (.putfield 56, 3) := by decide +kernel
theorem dX12_undo_56 : decode cX12_undo 56 = .ok (.aload_n 0, 1) := by decide +kernel
theorem dX12_undo_57 : decode cX12_undo 57 = .ok (.getfield 18, 3) := by decide +kernel
theorem dX12_undo_60 : decode cX12_undo 60 = .ok (.iload_n 1, 1) := by decide +kernel
theorem dX12_undo_61 : decode cX12_undo 61 = .ok (.iaload, 1) := by decide +kernel
theorem dX12_undo_62 : decode cX12_undo 62 = .ok (.ireturn, 1) := by decide +kernel
theorem dX12_again_0 : decode cX12_again 0 = .ok (.sipush 5160, 3) := by decide +kernel
theorem dX12_again_3 : decode cX12_again 3 = .ok (.istore 5, 2) := by decide +kernel
theorem dX12_again_5 : decode cX12_again 5 = .ok (.aload_n 0, 1) := by decide +kernel
theorem dX12_again_6 : decode cX12_again 6 = .ok (.iconst (-1), 1) := by decide +kernel
theorem dX12_again_7 : decode cX12_again 7 = .ok (.putfield 56, 3) := by decide +kernel
theorem dX12_again_10 : decode cX12_again 10 = .ok (.iload_n 1, 1) := by decide +kernel
theorem dX12_again_11 : decode cX12_again 11 = .ok (.tableswitch 164 0 6 #[41, 52, 74, 100, 164, 164, 131], 41) := by decide +kernel
theorem dX12_again_52 : decode cX12_again 52 = .ok (.aload_n 0, 1) := by decide +kernel
theorem dX12_again_53 : decode cX12_again 53 = .ok (.iload 5, 2) := by decide +kernel
theorem dX12_again_55 : decode cX12_again 55 = .ok (.iload_n 2, 1) := by decide +kernel
theorem dX12_again_56 : decode cX12_again 56 = .ok (.iload_n 3, 1) := by decide +kernel
theorem dX12_again_57 : decode cX12_again 57 = .ok (.invokevirtual 168, 3) := by decide +kernel
theorem dX12_again_60 : decode cX12_again 60 = .ok (.goto 158, 3) := by decide +kernel
theorem dX12_again_63 : decode cX12_again 63 = .ok (.aload_n 0, 1) := by decide +kernel
theorem dX12_again_64 : decode cX12_again 64 = .ok (.iload 5, 2) := by decide +kernel
theorem dX12_again_66 : decode cX12_again 66 = .ok (.iload_n 2, 1) := by decide +kernel
theorem dX12_again_67 : decode cX12_again 67 = .ok (.iload_n 3, 1) := by decide +kernel
theorem dX12_again_68 : decode cX12_again 68 = .ok (.invokevirtual 181, 3) := by decide +kernel
theorem dX12_again_71 : decode cX12_again 71 = .ok (.ifCond .ne 147, 3) := by decide +kernel
theorem dX12_again_74 : decode cX12_again 74 = .ok (.aload_n 0, 1) := by decide +kernel
theorem dX12_again_75 : decode cX12_again 75 = .ok (.iload 5, 2) := by decide +kernel
theorem dX12_again_77 : decode cX12_again 77 = .ok (.iload_n 2, 1) := by decide +kernel
theorem dX12_again_78 : decode cX12_again 78 = .ok (.iload_n 3, 1) := by decide +kernel
theorem dX12_again_79 : decode cX12_again 79 = .ok (.invokevirtual 184, 3) := by decide +kernel
theorem dX12_again_82 : decode cX12_again 82 = .ok (.goto 136, 3) := by decide +kernel
theorem dX12_again_85 : decode cX12_again 85 = .ok (.aload_n 0, 1) := by decide +kernel
theorem dX12_again_86 : decode cX12_again 86 = .ok (.iload 5, 2) := by decide +kernel
theorem dX12_again_88 : decode cX12_again 88 = .ok (.iload_n 2, 1) := by decide +kernel
theorem dX12_again_89 : decode cX12_again 89 = .ok (.iload_n 3, 1) := by decide +kernel
theorem dX12_again_90 : decode cX12_again 90 = .ok (.iload 4, 2) := by decide +kernel
theorem dX12_again_92 : decode cX12_again 92 = .ok (.invokevirtual 187, 3) := by decide +kernel
theorem dX12_again_95 : decode cX12_again 95 = .ok (.ifCond .eq 123, 3) := by decide +kernel
theorem dX12_again_98 : decode cX12_again 98 = .ok (.aload_n 0, 1) := by decide +kernel
theorem dX12_again_99 : decode cX12_again 99 = .ok (.iload 5, 2) := by decide +kernel
theorem dX12_again_101 : decode cX12_again 101 = .ok (.iload_n 2, 1) := by decide +kernel
theorem dX12_again_102 : decode cX12_again 102 = .ok (.iload_n 3, 1) := by decide +kernel
theorem dX12_again_103 : decode cX12_again 103 = .ok (.iload 4, 2) := by decide +kernel
theorem dX12_again_105 : decode cX12_again 105 = .ok (.invokevirtual 191, 3) := by decide +kernel
theorem dX12_again_108 : decode cX12_again 108 = .ok (.goto 110, 3) := by decide +kernel
theorem dX12_again_111 : decode cX12_again 111 = .ok (.aload_n 0, 1) := by decide +kernel
theorem dX12_again_112 : decode cX12_again 112 = .ok (.getfield 8, 3) := by decide +kernel
theorem dX12_again_115 : decode cX12_again 115 = .ok (.iload 5, 2) := by decide +kernel
theorem dX12_again_117 : decode cX12_again 117 = .ok (.bipush 13, 2) := by decide +kernel
theorem dX12_again_119 : decode cX12_again 119 = .ok (.iadd, 1) := by decide +kernel
theorem dX12_again_120 : decode cX12_again 120 = .ok (.dup2, 1) := by decide +kernel
theorem dX12_again_121 : decode cX12_again 121 = .ok (.iaload, 1) := by decide +kernel
theorem dX12_again_122 : decode cX12_again 122 = .ok (.aload_n 0, 1) := by decide +kernel
theorem dX12_again_123 : decode cX12_again 123 = .ok (.iload 5, 2) := by decide +kernel
theorem dX12_again_125 : decode cX12_again 125 = .ok (.iload_n 2, 1) := by decide +kernel
theorem dX12_again_126 : decode cX12_again 126 = .ok (.invokevirtual 195, 3) := by decide +kernel
theorem dX12_again_129 : decode cX12_again 129 = .ok (.ifCond .eq 7, 3) := by decide +kernel
theorem dX12_again_132 : decode cX12_again 132 = .ok (.iconst 1, 1) := by decide +kernel
theorem dX12_again_133 : decode cX12_again 133 = .ok (.goto 4, 3) := by decide +kernel
theorem dX12_again_136 : decode cX12_again 136 = .ok (.iconst 0, 1) := by decide +kernel
theorem dX12_again_137 : decode cX12_again 137 = .ok (.iadd, 1) := by decide +kernel
theorem dX12_again_138 : decode cX12_again 138 = .ok (.iastore, 1) := by decide +kernel
theorem dX12_again_139 : decode cX12_again 139 = .ok (.goto 79, 3) := by decide +kernel
theorem dX12_again_142 : decode cX12_again 142 = .ok (.aload_n 0, 1) := by decide +kernel
theorem dX12_again_143 : decode cX12_again 143 = .ok (.iload 5, 2) := by decide +kernel
theorem dX12_again_145 : decode cX12_again 145 = .ok (.invokevirtual 301, 3) := by decide +kernel
theorem dX12_again_148 : decode cX12_again 148 = .ok (.ifCond .eq 70, 3) := by decide +kernel
theorem dX12_again_151 : decode cX12_again 151 = .ok (.aload_n 0, 1) := by decide +kernel
theorem dX12_again_152 : decode cX12_again 152 = .ok (.iconst 4, 1) := by decide +kernel
theorem dX12_again_153 : decode cX12_again 153 = .ok (.iload 5, 2) := by decide +kernel
theorem dX12_again_155 : decode cX12_again 155 = .ok (.iload_n 2, 1) := by decide +kernel
theorem dX12_again_156 : decode cX12_again 156 = .ok (.invokevirtual 307, 3) := by decide +kernel
theorem dX12_again_159 : decode cX12_again 159 = .ok (.iload_n 3, 1) := by decide +kernel
theorem dX12_again_160 : decode cX12_again 160 = .ok (.if_icmp .lt 58, 3) := by decide +kernel
theorem dX12_again_163 : decode cX12_again 163 = .ok (.aload_n 0, 1) := by decide +kernel
theorem dX12_again_164 : decode cX12_again 164 = .ok (.iload 5, 2) := by decide +kernel
theorem dX12_again_166 : decode cX12_again 166 = .ok (.iconst 4, 1) := by decide +kernel
theorem dX12_again_167 : decode cX12_again 167 = .ok (.iload_n 2, 1) := by decide +kernel
theorem dX12_again_168 : decode cX12_again 168 = .ok (.iload_n 3, 1) := by decide +kernel
theorem dX12_again_169 : decode cX12_again 169 = .ok (.invokevirtual 310, 3) := by decide +kernel
theorem dX12_again_172 : decode cX12_again 172 = .ok (.goto 46, 3) := by decide +kernel
theorem dX12_again_175 : decode cX12_again 175 = .ok (.aload_n 0, 1) := by decide +kernel
theorem dX12_again_176 : decode cX12_again 176 = .ok (.getfield 8, 3) := by decide +kernel
theorem dX12_again_179 : decode cX12_again 179 = .ok (.iload 5, 2) := by decide +kernel
theorem dX12_again_181 : decode cX12_again 181 = .ok (.iconst 5, 1) := by decide +kernel
theorem dX12_again_182 : decode cX12_again 182 = .ok (.iadd, 1) := by decide +kernel
theorem dX12_again_183 : decode cX12_again 183 = .ok (.iaload, 1) := by decide +kernel
theorem dX12_again_184 : decode cX12_again 184 = .ok (.iconst 1, 1) := by decide +kernel
theorem dX12_again_185 : decode cX12_again 185 = .ok (.if_icmp .ne 33, 3) := by decide +kernel
theorem dX12_again_188 : decode cX12_again 188 = .ok (.aload_n 0, 1) := by decide +kernel
theorem dX12_again_189 : decode cX12_again 189 = .ok (.iload 5, 2) := by decide +kernel
theorem dX12_again_191 : decode cX12_again 191 = .ok (.iload_n 2, 1) := by decide +kernel
theorem dX12_again_192 : decode cX12_again 192 = .ok (.iload_n 3, 1) := by decide +kernel
theorem dX12_again_193 : decode cX12_again 193 = .ok (.iload_n 1, 1) := by decide +kernel
theorem dX12_again_194 : decode cX12_again 194 = .ok (.iconst 5, 1) := by decide +kernel
theorem dX12_again_195 : decode cX12_again 195 = .ok (.if_icmp .ne 7, 3) := by decide +kernel
theorem dX12_again_198 : decode cX12_again 198 = .ok (.iconst 1, 1) := by decide +kernel
theorem dX12_again_199 : decode cX12_again 199 = .ok (.goto 4, 3) := by decide +kernel
theorem dX12_again_202 : decode cX12_again 202 = .ok (.iconst 0, 1) := by decide +kernel
theorem dX12_again_203 : decode cX12_again 203 = .ok (.invokevirtual 235, 3) := by decide +kernel
theorem dX12_again_206 : decode cX12_again 206 = .ok (.ifCond .ne 12, 3) := by decide +kernel
theorem dX12_again_209 : decode cX12_again 209 = .ok (.aload_n 0, 1) := by decide +kernel
theorem dX12_again_210 : decode cX12_again 210 = .ok (.iload 5, 2) := by decide +kernel
theorem dX12_again_212 : decode cX12_again 212 = .ok (.iconst 4, 1) := by decide +kernel
theorem dX12_again_213 : decode cX12_again 213 = .ok (.iload_n 2, 1) := by decide +kernel
theorem dX12_again_214 : decode cX12_again 214 = .ok (.iload_n 3, 1) := by decide +kernel
theorem dX12_again_215 : decode cX12_again 215 = .ok (.invokevirtual 238, 3) := by decide +kernel
theorem dX12_again_218 : decode cX12_again 218 = .ok (.return_, 1) := by decide +kernel
theorem dX12_replay_0 : decode cX12_replay 0 = .ok (.aload_n 0, 1) := by decide +kernel
theorem dX12_replay_1 : decode cX12_replay 1 = .ok (.iload_n 1, 1) := by decide +kernel
theorem dX12_replay_2 : decode cX12_replay 2 = .ok (.invokevirtual 107, 3) := by decide +kernel
theorem dX12_replay_5 : decode cX12_replay 5 = .ok (.ifCond .ne 6, 3) := by decide +kernel
theorem dX12_replay_8 : decode cX12_replay 8 = .ok (.bipush (-2), 2) := by decide +kernel
theorem dX12_replay_10 : decode cX12_replay 10 = .ok (.ireturn, 1) := by decide +kernel
theorem dX12_replay_11 : decode cX12_replay 11 = .ok (.sipush 1290, 3) := by decide +kernel
theorem dX12_replay_14 : decode cX12_replay 14 = .ok (.iload_n 1, 1) := by decide +kernel
theorem dX12_replay_15 : decode cX12_replay 15 = .ok (.imul, 1) := by decide +kernel
theorem dX12_replay_16 : decode cX12_replay 16 = .ok (.istore_n 2, 1) := by decide +kernel
theorem dX12_replay_17 : decode cX12_replay 17 = .ok (.aload_n 0, 1) := by decide +kernel
theorem dX12_replay_18 : decode cX12_replay 18 = .ok (.getfield 8, 3) := by decide +kernel
theorem dX12_replay_21 : decode cX12_replay 21 = .ok (.iload_n 2, 1) := by decide +kernel
theorem dX12_replay_22 : decode cX12_replay 22 = .ok (.iconst 5, 1) := by decide +kernel
theorem dX12_replay_23 : decode cX12_replay 23 = .ok (.iadd, 1) := by decide +kernel
theorem dX12_replay_24 : decode cX12_replay 24 = .ok (.iaload, 1) := by decide +kernel
theorem dX12_replay_25 : decode cX12_replay 25 = .ok (.ifCond .ne 6, 3) := by decide +kernel
theorem dX12_replay_28 : decode cX12_replay 28 = .ok (.bipush (-4), 2) := by decide +kernel
theorem dX12_replay_30 : decode cX12_replay 30 = .ok (.ireturn, 1) := by decide +kernel
theorem dX12_replay_31 : decode cX12_replay 31 = .ok (.aload_n 0, 1) := by decide +kernel
theorem dX12_replay_32 : decode cX12_replay 32 = .ok (.getfield 8, 3) := by decide +kernel
theorem dX12_replay_35 : decode cX12_replay 35 = .ok (.iload_n 2, 1) := by decide +kernel
theorem dX12_replay_36 : decode cX12_replay 36 = .ok (.bipush 44, 2) := by decide +kernel
theorem dX12_replay_38 : decode cX12_replay 38 = .ok (.iadd, 1) := by decide +kernel
theorem dX12_replay_39 : decode cX12_replay 39 = .ok (.iaload, 1) := by decide +kernel
theorem dX12_replay_40 : decode cX12_replay 40 = .ok (.bipush 100, 2) := by decide +kernel
theorem dX12_replay_42 : decode cX12_replay 42 = .ok (.if_icmp .le 5, 3) := by decide +kernel
theorem dX12_replay_45 : decode cX12_replay 45 = .ok (.iconst 0, 1) := by decide +kernel
theorem dX12_replay_46 : decode cX12_replay 46 = .ok (.ireturn, 1) := by decide +kernel
theorem dX12_replay_47 : decode cX12_replay 47 = .ok (.aload_n 0, 1) := by decide +kernel
theorem dX12_replay_48 : decode cX12_replay 48 = .ok (.iload_n 1, 1) := by decide +kernel
theorem dX12_replay_49 : decode cX12_replay 49 = .ok (.iconst 4, 1) := by decide +kernel
theorem dX12_replay_50 : decode cX12_replay 50 = .ok (.invokevirtual 95, 3) := by decide +kernel
theorem dX12_replay_53 : decode cX12_replay 53 = .ok (.aload_n 0, 1) := by decide +kernel
theorem dX12_replay_54 : decode cX12_replay 54 = .ok (.iconst 1, 1) := by decide +kernel
theorem dX12_replay_55 : decode cX12_replay 55 = .ok (.putfield 78, 3) := by decide +kernel
theorem dX12_replay_58 : decode cX12_replay 58 = .ok (.iconst 0, 1) := by decide +kernel
theorem dX12_replay_59 : decode cX12_replay 59 = .ok (.istore_n 3, 1) := by decide +kernel
theorem dX12_replay_60 : decode cX12_replay 60 = .ok (.iload_n 3, 1) := by decide +kernel
theorem dX12_replay_61 : decode cX12_replay 61 = .ok (.aload_n 0, 1) := by decide +kernel
theorem dX12_replay_62 : decode cX12_replay 62 = .ok (.getfield 8, 3) := by decide +kernel
theorem dX12_replay_65 : decode cX12_replay 65 = .ok (.iload_n 2, 1) := by decide +kernel
theorem dX12_replay_66 : decode cX12_replay 66 = .ok (.bipush 44, 2) := by decide +kernel
theorem dX12_replay_68 : decode cX12_replay 68 = .ok (.iadd, 1) := by decide +kernel
theorem dX12_replay_69 : decode cX12_replay 69 = .ok (.iaload, 1) := by decide +kernel
theorem dX12_replay_70 : decode cX12_replay 70 = .ok (.if_icmp .ge 58, 3) := by decide +kernel
theorem dX12_replay_73 : decode cX12_replay 73 = .ok (.iload_n 2, 1) := by decide +kernel
theorem dX12_replay_74 : decode cX12_replay 74 = .ok (.sipush 890, 3) := by decide +kernel
theorem dX12_replay_77 : decode cX12_replay 77 = .ok (.iadd, 1) := by decide +kernel
theorem dX12_replay_78 : decode cX12_replay 78 = .ok (.iconst 4, 1) := by decide +kernel
theorem dX12_replay_79 : decode cX12_replay 79 = .ok (.iload_n 3, 1) := by decide +kernel
theorem dX12_replay_80 : decode cX12_replay 80 = .ok (.imul, 1) := by decide +kernel
theorem dX12_replay_81 : decode cX12_replay 81 = .ok (.iadd, 1) := by decide +kernel
theorem dX12_replay_82 : decode cX12_replay 82 = .ok (.istore 4, 2) := by decide +kernel
theorem dX12_replay_84 : decode cX12_replay 84 = .ok (.aload_n 0, 1) := by decide +kernel
theorem dX12_replay_85 : decode cX12_replay 85 = .ok (.aload_n 0, 1) := by decide +kernel
theorem dX12_replay_86 : decode cX12_replay 86 = .ok (.getfield 8, 3) := by decide +kernel
theorem dX12_replay_89 : decode cX12_replay 89 = .ok (.iload 4, 2) := by decide +kernel
theorem dX12_replay_91 : decode cX12_replay 91 = .ok (.iaload, 1) := by decide +kernel
theorem dX12_replay_92 : decode cX12_replay 92 = .ok (.aload_n 0, 1) := by decide +kernel
theorem dX12_replay_93 : decode cX12_replay 93 = .ok (.getfield 8, 3) := by decide +kernel
theorem dX12_replay_96 : decode cX12_replay 96 = .ok (.iload 4, 2) := by decide +kernel
theorem dX12_replay_98 : decode cX12_replay 98 = .ok (.iconst 1, 1) := by decide +kernel
theorem dX12_replay_99 : decode cX12_replay 99 = .ok (.iadd, 1) := by decide +kernel
theorem dX12_replay_100 : decode cX12_replay 100 = .ok (.iaload, 1) := by decide +kernel
theorem dX12_replay_101 : decode cX12_replay 101 = .ok (.aload_n 0, 1) := by decide +kernel
theorem dX12_replay_102 : decode cX12_replay 102 = .ok (.getfield 8, 3) := by decide +kernel
theorem dX12_replay_105 : decode cX12_replay 105 = .ok (.iload 4, 2) := by decide +kernel
theorem dX12_replay_107 : decode cX12_replay 107 = .ok (.iconst 2, 1) := by decide +kernel
theorem dX12_replay_108 : decode cX12_replay 108 = .ok (.iadd, 1) := by decide +kernel
theorem dX12_replay_109 : decode cX12_replay 109 = .ok (.iaload, 1) := by decide +kernel
theorem dX12_replay_110 : decode cX12_replay 110 = .ok (.aload_n 0, 1) := by decide +kernel
theorem dX12_replay_111 : decode cX12_replay 111 = .ok (.getfield 8, 3) := by decide +kernel
theorem dX12_replay_114 : decode cX12_replay 114 = .ok (.iload 4, 2) := by decide +kernel
theorem dX12_replay_116 : decode cX12_replay 116 = .ok (.iconst 3, 1) := by decide +kernel
theorem dX12_replay_117 : decode cX12_replay 117 = .ok (.iadd, 1) := by decide +kernel
theorem dX12_replay_118 : decode cX12_replay 118 = .ok (.iaload, 1) := by decide +kernel
theorem dX12_replay_119 : decode cX12_replay 119 = .ok (.invokevirtual 313, 3) := by decide +kernel
theorem dX12_replay_122 : decode cX12_replay 122 = .ok (.iinc 3 1, 3) := by decide +kernel
theorem dX12_replay_125 : decode cX12_replay 125 = .ok (.goto (-65), 3) := by decide +kernel
theorem dX12_replay_128 : decode cX12_replay 128 = .ok (.aload_n 0, 1) := by decide +kernel
theorem dX12_replay_129 : decode cX12_replay 129 = .ok (.iconst 0, 1) := by decide +kernel
theorem dX12_replay_130 : decode cX12_replay 130 = .ok (.putfield 78, 3) := by decide +kernel
theorem dX12_replay_133 : decode cX12_replay 133 = .ok (.aload_n 0, 1) := by decide +kernel
theorem dX12_replay_134 : decode cX12_replay 134 = .ok (.iconst (-1), 1) := by decide +kernel
theorem dX12_replay_135 : decode cX12_replay 135 = .ok (.putfield 56, 3) := by decide +kernel
theorem dX12_replay_138 : decode cX12_replay 138 = .ok (.sipush 5160, 3) := by decide +kernel
theorem dX12_replay_141 : decode cX12_replay 141 = .ok (.istore_n 3, 1) := by decide +kernel
theorem dX12_replay_142 : decode cX12_replay 142 = .ok (.aload_n 0, 1) := by decide +kernel
theorem dX12_replay_143 : decode cX12_replay 143 = .ok (.getfield 8, 3) := by decide +kernel
theorem dX12_replay_146 : decode cX12_replay 146 = .ok (.iload_n 2, 1) := by decide +kernel
theorem dX12_replay_147 : decode cX12_replay 147 = .ok (.bipush 21, 2) := by decide +kernel
theorem dX12_replay_149 : decode cX12_replay 149 = .ok (.iadd, 1) := by decide +kernel
theorem dX12_replay_150 : decode cX12_replay 150 = .ok (.iaload, 1) := by decide +kernel
theorem dX12_replay_151 : decode cX12_replay 151 = .ok (.aload_n 0, 1) := by decide +kernel
theorem dX12_replay_152 : decode cX12_replay 152 = .ok (.getfield 8, 3) := by decide +kernel
theorem dX12_replay_155 : decode cX12_replay 155 = .ok (.iload_n 3, 1) := by decide +kernel
theorem dX12_replay_156 : decode cX12_replay 156 = .ok (.bipush 21, 2) := by decide +kernel
theorem dX12_replay_158 : decode cX12_replay 158 = .ok (.iadd, 1) := by decide +kernel
theorem dX12_replay_159 : decode cX12_replay 159 = .ok (.iaload, 1) := by decide +kernel
theorem dX12_replay_160 : decode cX12_replay 160 = .ok (.if_icmp .ne 7, 3) := by decide +kernel
theorem dX12_replay_163 : decode cX12_replay 163 = .ok (.iconst 1, 1) := by decide +kernel
theorem dX12_replay_164 : decode cX12_replay 164 = .ok (.goto 4, 3) := by decide +kernel
theorem dX12_replay_167 : decode cX12_replay 167 = .ok (.iconst 0, 1) := by decide +kernel
theorem dX12_replay_168 : decode cX12_replay 168 = .ok (.istore 4, 2) := by decide +kernel
theorem dX12_replay_170 : decode cX12_replay 170 = .ok (.iconst 0, 1) := by decide +kernel
theorem dX12_replay_171 : decode cX12_replay 171 = .ok (.istore 5, 2) := by decide +kernel
theorem dX12_replay_173 : decode cX12_replay 173 = .ok (.iload 5, 2) := by decide +kernel
theorem dX12_replay_175 : decode cX12_replay 175 = .ok (.iconst 2, 1) := by decide +kernel
theorem dX12_replay_176 : decode cX12_replay 176 = .ok (.if_icmp .ge 75, 3) := by decide +kernel
theorem dX12_replay_179 : decode cX12_replay 179 = .ok (.iload 4, 2) := by decide +kernel
theorem dX12_replay_181 : decode cX12_replay 181 = .ok (.ifCond .eq 61, 3) := by decide +kernel
theorem dX12_replay_184 : decode cX12_replay 184 = .ok (.aload_n 0, 1) := by decide +kernel
theorem dX12_replay_185 : decode cX12_replay 185 = .ok (.getfield 8, 3) := by decide +kernel
theorem dX12_replay_188 : decode cX12_replay 188 = .ok (.iload_n 2, 1) := by decide +kernel
theorem dX12_replay_189 : decode cX12_replay 189 = .ok (.bipush 15, 2) := by decide +kernel
theorem dX12_replay_191 : decode cX12_replay 191 = .ok (.iadd, 1) := by decide +kernel
theorem dX12_replay_192 : decode cX12_replay 192 = .ok (.iload 5, 2) := by decide +kernel
theorem dX12_replay_194 : decode cX12_replay 194 = .ok (.iadd, 1) := by decide +kernel
theorem dX12_replay_195 : decode cX12_replay 195 = .ok (.iaload, 1) := by decide +kernel
theorem dX12_replay_196 : decode cX12_replay 196 = .ok (.aload_n 0, 1) := by decide +kernel
theorem dX12_replay_197 : decode cX12_replay 197 = .ok (.getfield 8, 3) := by decide +kernel
theorem dX12_replay_200 : decode cX12_replay 200 = .ok (.iload_n 3, 1) := by decide +kernel
theorem dX12_replay_201 : decode cX12_replay 201 = .ok (.bipush 15, 2) := by decide +kernel
theorem dX12_replay_203 : decode cX12_replay 203 = .ok (.iadd, 1) := by decide +kernel
theorem dX12_replay_204 : decode cX12_replay 204 = .ok (.iload 5, 2) := by decide +kernel
theorem dX12_replay_206 : decode cX12_replay 206 = .ok (.iadd, 1) := by decide +kernel
theorem dX12_replay_207 : decode cX12_replay 207 = .ok (.iaload, 1) := by decide +kernel
theorem dX12_replay_208 : decode cX12_replay 208 = .ok (.if_icmp .ne 34, 3) := by decide +kernel
theorem dX12_replay_211 : decode cX12_replay 211 = .ok (.aload_n 0, 1) := by decide +kernel
theorem dX12_replay_212 : decode cX12_replay 212 = .ok (.getfield 8, 3) := by decide +kernel
theorem dX12_replay_215 : decode cX12_replay 215 = .ok (.iload_n 2, 1) := by decide +kernel
theorem dX12_replay_216 : decode cX12_replay 216 = .ok (.bipush 17, 2) := by decide +kernel
theorem dX12_replay_218 : decode cX12_replay 218 = .ok (.iadd, 1) := by decide +kernel
theorem dX12_replay_219 : decode cX12_replay 219 = .ok (.iload 5, 2) := by decide +kernel
theorem dX12_replay_221 : decode cX12_replay 221 = .ok (.iadd, 1) := by decide +kernel
theorem dX12_replay_222 : decode cX12_replay 222 = .ok (.iaload, 1) := by decide +kernel
theorem dX12_replay_223 : decode cX12_replay 223 = .ok (.aload_n 0, 1) := by decide +kernel
theorem dX12_replay_224 : decode cX12_replay 224 = .ok (.getfield 8, 3) := by decide +kernel
theorem dX12_replay_227 : decode cX12_replay 227 = .ok (.iload_n 3, 1) := by decide +kernel
theorem dX12_replay_228 : decode cX12_replay 228 = .ok (.bipush 17, 2) := by decide +kernel
theorem dX12_replay_230 : decode cX12_replay 230 = .ok (.iadd, 1) := by decide +kernel
theorem dX12_replay_231 : decode cX12_replay 231 = .ok (.iload 5, 2) := by decide +kernel
theorem dX12_replay_233 : decode cX12_replay 233 = .ok (.iadd, 1) := by decide +kernel
theorem dX12_replay_234 : decode cX12_replay 234 = .ok (.iaload, 1) := by decide +kernel
theorem dX12_replay_235 : decode cX12_replay 235 = .ok (.if_icmp .ne 7, 3) := by decide +kernel
theorem dX12_replay_238 : decode cX12_replay 238 = .ok (.iconst 1, 1) := by decide +kernel
theorem dX12_replay_239 : decode cX12_replay 239 = .ok (.goto 4, 3) := by decide +kernel
theorem dX12_replay_242 : decode cX12_replay 242 = .ok (.iconst 0, 1) := by decide +kernel
theorem dX12_replay_243 : decode cX12_replay 243 = .ok (.istore 4, 2) := by decide +kernel
theorem dX12_replay_245 : decode cX12_replay 245 = .ok (.iinc 5 1, 3) := by decide +kernel
theorem dX12_replay_248 : decode cX12_replay 248 = .ok (.goto (-75), 3) := by decide +kernel
theorem dX12_replay_251 : decode cX12_replay 251 = .ok (.iconst 0, 1) := by decide +kernel
theorem dX12_replay_252 : decode cX12_replay 252 = .ok (.istore 5, 2) := by decide +kernel
theorem dX12_replay_254 : decode cX12_replay 254 = .ok (.iload 4, 2) := by decide +kernel
theorem dX12_replay_256 : decode cX12_replay 256 = .ok (.ifCond .eq 59, 3) := by decide +kernel
theorem dX12_replay_259 : decode cX12_replay 259 = .ok (.iload 5, 2) := by decide +kernel
theorem dX12_replay_261 : decode cX12_replay 261 = .ok (.aload_n 0, 1) := by decide +kernel
theorem dX12_replay_262 : decode cX12_replay 262 = .ok (.getfield 8, 3) := by decide +kernel
theorem dX12_replay_265 : decode cX12_replay 265 = .ok (.iload_n 2, 1) := by decide +kernel
theorem dX12_replay_266 : decode cX12_replay 266 = .ok (.bipush 21, 2) := by decide +kernel
theorem dX12_replay_268 : decode cX12_replay 268 = .ok (.iadd, 1) := by decide +kernel
theorem dX12_replay_269 : decode cX12_replay 269 = .ok (.iaload, 1) := by decide +kernel
theorem dX12_replay_270 : decode cX12_replay 270 = .ok (.if_icmp .ge 45, 3) := by decide +kernel
theorem dX12_replay_273 : decode cX12_replay 273 = .ok (.aload_n 0, 1) := by decide +kernel
theorem dX12_replay_274 : decode cX12_replay 274 = .ok (.getfield 8, 3) := by decide +kernel
theorem dX12_replay_277 : decode cX12_replay 277 = .ok (.iload_n 2, 1) := by decide +kernel
theorem dX12_replay_278 : decode cX12_replay 278 = .ok (.sipush 170, 3) := by decide +kernel
theorem dX12_replay_281 : decode cX12_replay 281 = .ok (.iadd, 1) := by decide +kernel
theorem dX12_replay_282 : decode cX12_replay 282 = .ok (.iload 5, 2) := by decide +kernel
theorem dX12_replay_284 : decode cX12_replay 284 = .ok (.iadd, 1) := by decide +kernel
theorem dX12_replay_285 : decode cX12_replay 285 = .ok (.iaload, 1) := by decide +kernel
theorem dX12_replay_286 : decode cX12_replay 286 = .ok (.aload_n 0, 1) := by decide +kernel
theorem dX12_replay_287 : decode cX12_replay 287 = .ok (.getfield 8, 3) := by decide +kernel
theorem dX12_replay_290 : decode cX12_replay 290 = .ok (.iload_n 3, 1) := by decide +kernel
theorem dX12_replay_291 : decode cX12_replay 291 = .ok (.sipush 170, 3) := by decide +kernel
theorem dX12_replay_294 : decode cX12_replay 294 = .ok (.iadd, 1) := by decide +kernel
theorem dX12_replay_295 : decode cX12_replay 295 = .ok (.iload 5, 2) := by decide +kernel
theorem dX12_replay_297 : decode cX12_replay 297 = .ok (.iadd, 1) := by decide +kernel
theorem dX12_replay_298 : decode cX12_replay 298 = .ok (.iaload, 1) := by decide +kernel
theorem dX12_replay_299 : decode cX12_replay 299 = .ok (.if_icmp .ne 7, 3) := by decide +kernel
theorem dX12_replay_302 : decode cX12_replay 302 = .ok (.iconst 1, 1) := by decide +kernel
theorem dX12_replay_303 : decode cX12_replay 303 = .ok (.goto 4, 3) := by decide +kernel
theorem dX12_replay_306 : decode cX12_replay 306 = .ok (.iconst 0, 1) := by decide +kernel
theorem dX12_replay_307 : decode cX12_replay 307 = .ok (.istore 4, 2) := by decide +kernel
theorem dX12_replay_309 : decode cX12_replay 309 = .ok (.iinc 5 1, 3) := by decide +kernel
theorem dX12_replay_312 : decode cX12_replay 312 = .ok (.goto (-58), 3) := by decide +kernel
theorem dX12_replay_315 : decode cX12_replay 315 = .ok (.iconst 0, 1) := by decide +kernel
theorem dX12_replay_316 : decode cX12_replay 316 = .ok (.istore 5, 2) := by decide +kernel
theorem dX12_replay_318 : decode cX12_replay 318 = .ok (.iload 5, 2) := by decide +kernel
theorem dX12_replay_320 : decode cX12_replay 320 = .ok (.iconst 4, 1) := by decide +kernel
theorem dX12_replay_321 : decode cX12_replay 321 = .ok (.if_icmp .ge 127, 3) := by decide +kernel
theorem dX12_replay_324 : decode cX12_replay 324 = .ok (.iload 4, 2) := by decide +kernel
theorem dX12_replay_326 : decode cX12_replay 326 = .ok (.ifCond .eq 34, 3) := by decide +kernel
theorem dX12_replay_329 : decode cX12_replay 329 = .ok (.aload_n 0, 1) := by decide +kernel
theorem dX12_replay_330 : decode cX12_replay 330 = .ok (.getfield 8, 3) := by decide +kernel
theorem dX12_replay_333 : decode cX12_replay 333 = .ok (.iload_n 2, 1) := by decide +kernel
theorem dX12_replay_334 : decode cX12_replay 334 = .ok (.bipush 22, 2) := by decide +kernel
theorem dX12_replay_336 : decode cX12_replay 336 = .ok (.iadd, 1) := by decide +kernel
theorem dX12_replay_337 : decode cX12_replay 337 = .ok (.iload 5, 2) := by decide +kernel
theorem dX12_replay_339 : decode cX12_replay 339 = .ok (.iadd, 1) := by decide +kernel
theorem dX12_replay_340 : decode cX12_replay 340 = .ok (.iaload, 1) := by decide +kernel
theorem dX12_replay_341 : decode cX12_replay 341 = .ok (.aload_n 0, 1) := by decide +kernel
theorem dX12_replay_342 : decode cX12_replay 342 = .ok (.getfield 8, 3) := by decide +kernel
theorem dX12_replay_345 : decode cX12_replay 345 = .ok (.iload_n 3, 1) := by decide +kernel
theorem dX12_replay_346 : decode cX12_replay 346 = .ok (.bipush 22, 2) := by decide +kernel
theorem dX12_replay_348 : decode cX12_replay 348 = .ok (.iadd, 1) := by decide +kernel
theorem dX12_replay_349 : decode cX12_replay 349 = .ok (.iload 5, 2) := by decide +kernel
theorem dX12_replay_351 : decode cX12_replay 351 = .ok (.iadd, 1) := by decide +kernel
theorem dX12_replay_352 : decode cX12_replay 352 = .ok (.iaload, 1) := by decide +kernel
theorem dX12_replay_353 : decode cX12_replay 353 = .ok (.if_icmp .ne 7, 3) := by decide +kernel
theorem dX12_replay_356 : decode cX12_replay 356 = .ok (.iconst 1, 1) := by decide +kernel
theorem dX12_replay_357 : decode cX12_replay 357 = .ok (.goto 4, 3) := by decide +kernel
theorem dX12_replay_360 : decode cX12_replay 360 = .ok (.iconst 0, 1) := by decide +kernel
theorem dX12_replay_361 : decode cX12_replay 361 = .ok (.istore 4, 2) := by decide +kernel
theorem dX12_replay_363 : decode cX12_replay 363 = .ok (.iconst 0, 1) := by decide +kernel
theorem dX12_replay_364 : decode cX12_replay 364 = .ok (.istore 6, 2) := by decide +kernel
theorem dX12_replay_366 : decode cX12_replay 366 = .ok (.iload 4, 2) := by decide +kernel
theorem dX12_replay_368 : decode cX12_replay 368 = .ok (.ifCond .eq 74, 3) := by decide +kernel
theorem dX12_replay_371 : decode cX12_replay 371 = .ok (.iload 6, 2) := by decide +kernel
theorem dX12_replay_373 : decode cX12_replay 373 = .ok (.aload_n 0, 1) := by decide +kernel
theorem dX12_replay_374 : decode cX12_replay 374 = .ok (.getfield 8, 3) := by decide +kernel
theorem dX12_replay_377 : decode cX12_replay 377 = .ok (.iload_n 2, 1) := by decide +kernel
theorem dX12_replay_378 : decode cX12_replay 378 = .ok (.bipush 22, 2) := by decide +kernel
theorem dX12_replay_380 : decode cX12_replay 380 = .ok (.iadd, 1) := by decide +kernel
theorem dX12_replay_381 : decode cX12_replay 381 = .ok (.iload 5, 2) := by decide +kernel
theorem dX12_replay_383 : decode cX12_replay 383 = .ok (.iadd, 1) := by decide +kernel
theorem dX12_replay_384 : decode cX12_replay 384 = .ok (.iaload, 1) := by decide +kernel
theorem dX12_replay_385 : decode cX12_replay 385 = .ok (.if_icmp .ge 57, 3) := by decide +kernel
theorem dX12_replay_388 : decode cX12_replay 388 = .ok (.aload_n 0, 1) := by decide +kernel
theorem dX12_replay_389 : decode cX12_replay 389 = .ok (.getfield 8, 3) := by decide +kernel
theorem dX12_replay_392 : decode cX12_replay 392 = .ok (.iload_n 2, 1) := by decide +kernel
theorem dX12_replay_393 : decode cX12_replay 393 = .ok (.sipush 230, 3) := by decide +kernel
theorem dX12_replay_396 : decode cX12_replay 396 = .ok (.iadd, 1) := by decide +kernel
theorem dX12_replay_397 : decode cX12_replay 397 = .ok (.bipush 60, 2) := by decide +kernel
theorem dX12_replay_399 : decode cX12_replay 399 = .ok (.iload 5, 2) := by decide +kernel
theorem dX12_replay_401 : decode cX12_replay 401 = .ok (.imul, 1) := by decide +kernel
theorem dX12_replay_402 : decode cX12_replay 402 = .ok (.iadd, 1) := by decide +kernel
theorem dX12_replay_403 : decode cX12_replay 403 = .ok (.iload 6, 2) := by decide +kernel
theorem dX12_replay_405 : decode cX12_replay 405 = .ok (.iadd, 1) := by decide +kernel
theorem dX12_replay_406 : decode cX12_replay 406 = .ok (.iaload, 1) := by decide +kernel
theorem dX12_replay_407 : decode cX12_replay 407 = .ok (.aload_n 0, 1) := by decide +kernel
theorem dX12_replay_408 : decode cX12_replay 408 = .ok (.getfield 8, 3) := by decide +kernel
theorem dX12_replay_411 : decode cX12_replay 411 = .ok (.iload_n 3, 1) := by decide +kernel
theorem dX12_replay_412 : decode cX12_replay 412 = .ok (.sipush 230, 3) := by decide +kernel
theorem dX12_replay_415 : decode cX12_replay 415 = .ok (.iadd, 1) := by decide +kernel
theorem dX12_replay_416 : decode cX12_replay 416 = .ok (.bipush 60, 2) := by decide +kernel
theorem dX12_replay_418 : decode cX12_replay 418 = .ok (.iload 5, 2) := by decide +kernel
theorem dX12_replay_420 : decode cX12_replay 420 = .ok (.imul, 1) := by decide +kernel
theorem dX12_replay_421 : decode cX12_replay 421 = .ok (.iadd, 1) := by decide +kernel
theorem dX12_replay_422 : decode cX12_replay 422 = .ok (.iload 6, 2) := by decide +kernel
theorem dX12_replay_424 : decode cX12_replay 424 = .ok (.iadd, 1) := by decide +kernel
theorem dX12_replay_425 : decode cX12_replay 425 = .ok (.iaload, 1) := by decide +kernel
theorem dX12_replay_426 : decode cX12_replay 426 = .ok (.if_icmp .ne 7, 3) := by decide +kernel
theorem dX12_replay_429 : decode cX12_replay 429 = .ok (.iconst 1, 1) := by decide +kernel
theorem dX12_replay_430 : decode cX12_replay 430 = .ok (.goto 4, 3) := by decide +kernel
theorem dX12_replay_433 : decode cX12_replay 433 = .ok (.iconst 0, 1) := by decide +kernel
theorem dX12_replay_434 : decode cX12_replay 434 = .ok (.istore 4, 2) := by decide +kernel
theorem dX12_replay_436 : decode cX12_replay 436 = .ok (.iinc 6 1, 3) := by decide +kernel
theorem dX12_replay_439 : decode cX12_replay 439 = .ok (.goto (-73), 3) := by decide +kernel
theorem dX12_replay_442 : decode cX12_replay 442 = .ok (.iinc 5 1, 3) := by decide +kernel
theorem dX12_replay_445 : decode cX12_replay 445 = .ok (.goto (-127), 3) := by decide +kernel
theorem dX12_replay_448 : decode cX12_replay 448 = .ok (.iload 4, 2) := by decide +kernel
theorem dX12_replay_450 : decode cX12_replay 450 = .ok (.ifCond .eq 7, 3) := by decide +kernel
theorem dX12_replay_453 : decode cX12_replay 453 = .ok (.iconst 1, 1) := by decide +kernel
theorem dX12_replay_454 : decode cX12_replay 454 = .ok (.goto 4, 3) := by decide +kernel
theorem dX12_replay_457 : decode cX12_replay 457 = .ok (.iconst 0, 1) := by decide +kernel
theorem dX12_replay_458 : decode cX12_replay 458 = .ok (.ireturn, 1) := by decide +kernel
theorem dX12_digest_0 : decode cX12_digest 0 = .ok (.aload_n 0, 1) := by decide +kernel
theorem dX12_digest_1 : decode cX12_digest 1 = .ok (.iload_n 1, 1) := by decide +kernel
theorem dX12_digest_2 : decode cX12_digest 2 = .ok (.invokevirtual 107, 3) := by decide +kernel
theorem dX12_digest_5 : decode cX12_digest 5 = .ok (.ifCond .ne 6, 3) := by decide +kernel
theorem dX12_digest_8 : decode cX12_digest 8 = .ok (.bipush (-2), 2) := by decide +kernel
theorem dX12_digest_10 : decode cX12_digest 10 = .ok (.ireturn, 1) := by decide +kernel
theorem dX12_digest_11 : decode cX12_digest 11 = .ok (.sipush 1290, 3) := by decide +kernel
theorem dX12_digest_14 : decode cX12_digest 14 = .ok (.iload_n 1, 1) := by decide +kernel
theorem dX12_digest_15 : decode cX12_digest 15 = .ok (.imul, 1) := by decide +kernel
theorem dX12_digest_16 : decode cX12_digest 16 = .ok (.istore_n 2, 1) := by decide +kernel
theorem dX12_digest_17 : decode cX12_digest 17 = .ok (.bipush 17, 2) := by decide +kernel
theorem dX12_digest_19 : decode cX12_digest 19 = .ok (.istore_n 3, 1) := by decide +kernel
theorem dX12_digest_20 : decode cX12_digest 20 = .ok (.iconst 0, 1) := by decide +kernel
theorem dX12_digest_21 : decode cX12_digest 21 = .ok (.istore 4, 2) := by decide +kernel
theorem dX12_digest_23 : decode cX12_digest 23 = .ok (.iload 4, 2) := by decide +kernel
theorem dX12_digest_25 : decode cX12_digest 25 = .ok (.iconst 4, 1) := by decide +kernel
theorem dX12_digest_26 : decode cX12_digest 26 = .ok (.if_icmp .ge 78, 3) := by decide +kernel
theorem dX12_digest_29 : decode cX12_digest 29 = .ok (.bipush 31, 2) := by decide +kernel
theorem dX12_digest_31 : decode cX12_digest 31 = .ok (.iload_n 3, 1) := by decide +kernel
theorem dX12_digest_32 : decode cX12_digest 32 = .ok (.imul, 1) := by decide +kernel
theorem dX12_digest_33 : decode cX12_digest 33 = .ok (.aload_n 0, 1) := by decide +kernel
theorem dX12_digest_34 : decode cX12_digest 34 = .ok (.getfield 8, 3) := by decide +kernel
theorem dX12_digest_37 : decode cX12_digest 37 = .ok (.iload_n 2, 1) := by decide +kernel
theorem dX12_digest_38 : decode cX12_digest 38 = .ok (.bipush 22, 2) := by decide +kernel
theorem dX12_digest_40 : decode cX12_digest 40 = .ok (.iadd, 1) := by decide +kernel
theorem dX12_digest_41 : decode cX12_digest 41 = .ok (.iload 4, 2) := by decide +kernel
theorem dX12_digest_43 : decode cX12_digest 43 = .ok (.iadd, 1) := by decide +kernel
theorem dX12_digest_44 : decode cX12_digest 44 = .ok (.iaload, 1) := by decide +kernel
theorem dX12_digest_45 : decode cX12_digest 45 = .ok (.iadd, 1) := by decide +kernel
theorem dX12_digest_46 : decode cX12_digest 46 = .ok (.istore_n 3, 1) := by decide +kernel
theorem dX12_digest_47 : decode cX12_digest 47 = .ok (.iconst 0, 1) := by decide +kernel
theorem dX12_digest_48 : decode cX12_digest 48 = .ok (.istore 5, 2) := by decide +kernel
theorem dX12_digest_50 : decode cX12_digest 50 = .ok (.iload 5, 2) := by decide +kernel
theorem dX12_digest_52 : decode cX12_digest 52 = .ok (.aload_n 0, 1) := by decide +kernel
theorem dX12_digest_53 : decode cX12_digest 53 = .ok (.getfield 8, 3) := by decide +kernel
theorem dX12_digest_56 : decode cX12_digest 56 = .ok (.iload_n 2, 1) := by decide +kernel
theorem dX12_digest_57 : decode cX12_digest 57 = .ok (.bipush 22, 2) := by decide +kernel
theorem dX12_digest_59 : decode cX12_digest 59 = .ok (.iadd, 1) := by decide +kernel
theorem dX12_digest_60 : decode cX12_digest 60 = .ok (.iload 4, 2) := by decide +kernel
theorem dX12_digest_62 : decode cX12_digest 62 = .ok (.iadd, 1) := by decide +kernel
theorem dX12_digest_63 : decode cX12_digest 63 = .ok (.iaload, 1) := by decide +kernel
theorem dX12_digest_64 : decode cX12_digest 64 = .ok (.if_icmp .ge 34, 3) := by decide +kernel
theorem dX12_digest_67 : decode cX12_digest 67 = .ok (.bipush 31, 2) := by decide +kernel
theorem dX12_digest_69 : decode cX12_digest 69 = .ok (.iload_n 3, 1) := by decide +kernel
theorem dX12_digest_70 : decode cX12_digest 70 = .ok (.imul, 1) := by decide +kernel
theorem dX12_digest_71 : decode cX12_digest 71 = .ok (.aload_n 0, 1) := by decide +kernel
theorem dX12_digest_72 : decode cX12_digest 72 = .ok (.getfield 8, 3) := by decide +kernel
theorem dX12_digest_75 : decode cX12_digest 75 = .ok (.iload_n 2, 1) := by decide +kernel
theorem dX12_digest_76 : decode cX12_digest 76 = .ok (.sipush 230, 3) := by decide +kernel
theorem dX12_digest_79 : decode cX12_digest 79 = .ok (.iadd, 1) := by decide +kernel
theorem dX12_digest_80 : decode cX12_digest 80 = .ok (.bipush 60, 2) := by decide +kernel
theorem dX12_digest_82 : decode cX12_digest 82 = .ok (.iload 4, 2) := by decide +kernel
theorem dX12_digest_84 : decode cX12_digest 84 = .ok (.imul, 1) := by decide +kernel
theorem dX12_digest_85 : decode cX12_digest 85 = .ok (.iadd, 1) := by decide +kernel
theorem dX12_digest_86 : decode cX12_digest 86 = .ok (.iload 5, 2) := by decide +kernel
theorem dX12_digest_88 : decode cX12_digest 88 = .ok (.iadd, 1) := by decide +kernel
theorem dX12_digest_89 : decode cX12_digest 89 = .ok (.iaload, 1) := by decide +kernel
theorem dX12_digest_90 : decode cX12_digest 90 = .ok (.iadd, 1) := by decide +kernel
theorem dX12_digest_91 : decode cX12_digest 91 = .ok (.istore_n 3, 1) := by decide +kernel
theorem dX12_digest_92 : decode cX12_digest 92 = .ok (.iinc 5 1, 3) := by decide +kernel
theorem dX12_digest_95 : decode cX12_digest 95 = .ok (.goto (-45), 3) := by decide +kernel
theorem dX12_digest_98 : decode cX12_digest 98 = .ok (.iinc 4 1, 3) := by decide +kernel
theorem dX12_digest_101 : decode cX12_digest 101 = .ok (.goto (-78), 3) := by decide +kernel
theorem dX12_digest_104 : decode cX12_digest 104 = .ok (.bipush 31, 2) := by decide +kernel
theorem dX12_digest_106 : decode cX12_digest 106 = .ok (.iload_n 3, 1) := by decide +kernel
theorem dX12_digest_107 : decode cX12_digest 107 = .ok (.imul, 1) := by decide +kernel
theorem dX12_digest_108 : decode cX12_digest 108 = .ok (.aload_n 0, 1) := by decide +kernel
theorem dX12_digest_109 : decode cX12_digest 109 = .ok (.getfield 8, 3) := by decide +kernel
theorem dX12_digest_112 : decode cX12_digest 112 = .ok (.iload_n 2, 1) := by decide +kernel
theorem dX12_digest_113 : decode cX12_digest 113 = .ok (.bipush 26, 2) := by decide +kernel
theorem dX12_digest_115 : decode cX12_digest 115 = .ok (.iadd, 1) := by decide +kernel
theorem dX12_digest_116 : decode cX12_digest 116 = .ok (.iaload, 1) := by decide +kernel
theorem dX12_digest_117 : decode cX12_digest 117 = .ok (.iadd, 1) := by decide +kernel
theorem dX12_digest_118 : decode cX12_digest 118 = .ok (.istore_n 3, 1) := by decide +kernel
theorem dX12_digest_119 : decode cX12_digest 119 = .ok (.iconst 0, 1) := by decide +kernel
theorem dX12_digest_120 : decode cX12_digest 120 = .ok (.istore 4, 2) := by decide +kernel
theorem dX12_digest_122 : decode cX12_digest 122 = .ok (.iload 4, 2) := by decide +kernel
theorem dX12_digest_124 : decode cX12_digest 124 = .ok (.aload_n 0, 1) := by decide +kernel
theorem dX12_digest_125 : decode cX12_digest 125 = .ok (.getfield 8, 3) := by decide +kernel
theorem dX12_digest_128 : decode cX12_digest 128 = .ok (.iload_n 2, 1) := by decide +kernel
theorem dX12_digest_129 : decode cX12_digest 129 = .ok (.bipush 26, 2) := by decide +kernel
theorem dX12_digest_131 : decode cX12_digest 131 = .ok (.iadd, 1) := by decide +kernel
theorem dX12_digest_132 : decode cX12_digest 132 = .ok (.iaload, 1) := by decide +kernel
theorem dX12_digest_133 : decode cX12_digest 133 = .ok (.if_icmp .ge 27, 3) := by decide +kernel
theorem dX12_digest_136 : decode cX12_digest 136 = .ok (.bipush 31, 2) := by decide +kernel
theorem dX12_digest_138 : decode cX12_digest 138 = .ok (.iload_n 3, 1) := by decide +kernel
theorem dX12_digest_139 : decode cX12_digest 139 = .ok (.imul, 1) := by decide +kernel
theorem dX12_digest_140 : decode cX12_digest 140 = .ok (.aload_n 0, 1) := by decide +kernel
theorem dX12_digest_141 : decode cX12_digest 141 = .ok (.getfield 8, 3) := by decide +kernel
theorem dX12_digest_144 : decode cX12_digest 144 = .ok (.iload_n 2, 1) := by decide +kernel
theorem dX12_digest_145 : decode cX12_digest 145 = .ok (.bipush 27, 2) := by decide +kernel
theorem dX12_digest_147 : decode cX12_digest 147 = .ok (.iadd, 1) := by decide +kernel
theorem dX12_digest_148 : decode cX12_digest 148 = .ok (.iload 4, 2) := by decide +kernel
theorem dX12_digest_150 : decode cX12_digest 150 = .ok (.iadd, 1) := by decide +kernel
theorem dX12_digest_151 : decode cX12_digest 151 = .ok (.iaload, 1) := by decide +kernel
theorem dX12_digest_152 : decode cX12_digest 152 = .ok (.iadd, 1) := by decide +kernel
theorem dX12_digest_153 : decode cX12_digest 153 = .ok (.istore_n 3, 1) := by decide +kernel
theorem dX12_digest_154 : decode cX12_digest 154 = .ok (.iinc 4 1, 3) := by decide +kernel
theorem dX12_digest_157 : decode cX12_digest 157 = .ok (.goto (-35), 3) := by decide +kernel
theorem dX12_digest_160 : decode cX12_digest 160 = .ok (.iconst 0, 1) := by decide +kernel
theorem dX12_digest_161 : decode cX12_digest 161 = .ok (.istore 4, 2) := by decide +kernel
theorem dX12_digest_163 : decode cX12_digest 163 = .ok (.iload 4, 2) := by decide +kernel
theorem dX12_digest_165 : decode cX12_digest 165 = .ok (.iconst 2, 1) := by decide +kernel
theorem dX12_digest_166 : decode cX12_digest 166 = .ok (.if_icmp .ge 45, 3) := by decide +kernel
theorem dX12_digest_169 : decode cX12_digest 169 = .ok (.bipush 31, 2) := by decide +kernel
theorem dX12_digest_171 : decode cX12_digest 171 = .ok (.iload_n 3, 1) := by decide +kernel
theorem dX12_digest_172 : decode cX12_digest 172 = .ok (.imul, 1) := by decide +kernel
theorem dX12_digest_173 : decode cX12_digest 173 = .ok (.aload_n 0, 1) := by decide +kernel
theorem dX12_digest_174 : decode cX12_digest 174 = .ok (.getfield 8, 3) := by decide +kernel
theorem dX12_digest_177 : decode cX12_digest 177 = .ok (.iload_n 2, 1) := by decide +kernel
theorem dX12_digest_178 : decode cX12_digest 178 = .ok (.bipush 15, 2) := by decide +kernel
theorem dX12_digest_180 : decode cX12_digest 180 = .ok (.iadd, 1) := by decide +kernel
theorem dX12_digest_181 : decode cX12_digest 181 = .ok (.iload 4, 2) := by decide +kernel
theorem dX12_digest_183 : decode cX12_digest 183 = .ok (.iadd, 1) := by decide +kernel
theorem dX12_digest_184 : decode cX12_digest 184 = .ok (.iaload, 1) := by decide +kernel
theorem dX12_digest_185 : decode cX12_digest 185 = .ok (.iadd, 1) := by decide +kernel
theorem dX12_digest_186 : decode cX12_digest 186 = .ok (.istore_n 3, 1) := by decide +kernel
theorem dX12_digest_187 : decode cX12_digest 187 = .ok (.bipush 31, 2) := by decide +kernel
theorem dX12_digest_189 : decode cX12_digest 189 = .ok (.iload_n 3, 1) := by decide +kernel
theorem dX12_digest_190 : decode cX12_digest 190 = .ok (.imul, 1) := by decide +kernel
theorem dX12_digest_191 : decode cX12_digest 191 = .ok (.aload_n 0, 1) := by decide +kernel
theorem dX12_digest_192 : decode cX12_digest 192 = .ok (.getfield 8, 3) := by decide +kernel
theorem dX12_digest_195 : decode cX12_digest 195 = .ok (.iload_n 2, 1) := by decide +kernel
theorem dX12_digest_196 : decode cX12_digest 196 = .ok (.bipush 17, 2) := by decide +kernel
theorem dX12_digest_198 : decode cX12_digest 198 = .ok (.iadd, 1) := by decide +kernel
theorem dX12_digest_199 : decode cX12_digest 199 = .ok (.iload 4, 2) := by decide +kernel
theorem dX12_digest_201 : decode cX12_digest 201 = .ok (.iadd, 1) := by decide +kernel
theorem dX12_digest_202 : decode cX12_digest 202 = .ok (.iaload, 1) := by decide +kernel
theorem dX12_digest_203 : decode cX12_digest 203 = .ok (.iadd, 1) := by decide +kernel
theorem dX12_digest_204 : decode cX12_digest 204 = .ok (.istore_n 3, 1) := by decide +kernel
theorem dX12_digest_205 : decode cX12_digest 205 = .ok (.iinc 4 1, 3) := by decide +kernel
theorem dX12_digest_208 : decode cX12_digest 208 = .ok (.goto (-45), 3) := by decide +kernel
theorem dX12_digest_211 : decode cX12_digest 211 = .ok (.iconst 0, 1) := by decide +kernel
theorem dX12_digest_212 : decode cX12_digest 212 = .ok (.istore 4, 2) := by decide +kernel
theorem dX12_digest_214 : decode cX12_digest 214 = .ok (.iload 4, 2) := by decide +kernel
theorem dX12_digest_216 : decode cX12_digest 216 = .ok (.iconst 4, 1) := by decide +kernel
theorem dX12_digest_217 : decode cX12_digest 217 = .ok (.if_icmp .ge 27, 3) := by decide +kernel
theorem dX12_digest_220 : decode cX12_digest 220 = .ok (.bipush 31, 2) := by decide +kernel
theorem dX12_digest_222 : decode cX12_digest 222 = .ok (.iload_n 3, 1) := by decide +kernel
theorem dX12_digest_223 : decode cX12_digest 223 = .ok (.imul, 1) := by decide +kernel
theorem dX12_digest_224 : decode cX12_digest 224 = .ok (.aload_n 0, 1) := by decide +kernel
theorem dX12_digest_225 : decode cX12_digest 225 = .ok (.getfield 8, 3) := by decide +kernel
theorem dX12_digest_228 : decode cX12_digest 228 = .ok (.iload_n 2, 1) := by decide +kernel
theorem dX12_digest_229 : decode cX12_digest 229 = .ok (.bipush 39, 2) := by decide +kernel
theorem dX12_digest_231 : decode cX12_digest 231 = .ok (.iadd, 1) := by decide +kernel
theorem dX12_digest_232 : decode cX12_digest 232 = .ok (.iload 4, 2) := by decide +kernel
theorem dX12_digest_234 : decode cX12_digest 234 = .ok (.iadd, 1) := by decide +kernel
theorem dX12_digest_235 : decode cX12_digest 235 = .ok (.iaload, 1) := by decide +kernel
theorem dX12_digest_236 : decode cX12_digest 236 = .ok (.iadd, 1) := by decide +kernel
theorem dX12_digest_237 : decode cX12_digest 237 = .ok (.istore_n 3, 1) := by decide +kernel
theorem dX12_digest_238 : decode cX12_digest 238 = .ok (.iinc 4 1, 3) := by decide +kernel
theorem dX12_digest_241 : decode cX12_digest 241 = .ok (.goto (-27), 3) := by decide +kernel
theorem dX12_digest_244 : decode cX12_digest 244 = .ok (.bipush 31, 2) := by decide +kernel
theorem dX12_digest_246 : decode cX12_digest 246 = .ok (.iload_n 3, 1) := by decide +kernel
theorem dX12_digest_247 : decode cX12_digest 247 = .ok (.imul, 1) := by decide +kernel
theorem dX12_digest_248 : decode cX12_digest 248 = .ok (.aload_n 0, 1) := by decide +kernel
theorem dX12_digest_249 : decode cX12_digest 249 = .ok (.getfield 8, 3) := by decide +kernel
theorem dX12_digest_252 : decode cX12_digest 252 = .ok (.iload_n 2, 1) := by decide +kernel
theorem dX12_digest_253 : decode cX12_digest 253 = .ok (.bipush 9, 2) := by decide +kernel
theorem dX12_digest_255 : decode cX12_digest 255 = .ok (.iadd, 1) := by decide +kernel
theorem dX12_digest_256 : decode cX12_digest 256 = .ok (.iaload, 1) := by decide +kernel
theorem dX12_digest_257 : decode cX12_digest 257 = .ok (.iadd, 1) := by decide +kernel
theorem dX12_digest_258 : decode cX12_digest 258 = .ok (.ireturn, 1) := by decide +kernel
theorem dX12_finding_0 : decode cX12_finding 0 = .ok (.iload_n 2, 1) := by decide +kernel
theorem dX12_finding_1 : decode cX12_finding 1 = .ok (.iconst 0, 1) := by decide +kernel
theorem dX12_finding_2 : decode cX12_finding 2 = .ok (.iconst 4, 1) := by decide +kernel
theorem dX12_finding_3 : decode cX12_finding 3 = .ok (.invokestatic 91, 3) := by decide +kernel
theorem dX12_finding_6 : decode cX12_finding 6 = .ok (.ifCond .ne 6, 3) := by decide +kernel
theorem dX12_finding_9 : decode cX12_finding 9 = .ok (.bipush (-3), 2) := by decide +kernel
theorem dX12_finding_11 : decode cX12_finding 11 = .ok (.ireturn, 1) := by decide +kernel
theorem dX12_finding_12 : decode cX12_finding 12 = .ok (.aload_n 0, 1) := by decide +kernel
theorem dX12_finding_13 : decode cX12_finding 13 = .ok (.getfield 85, 3) := by decide +kernel
theorem dX12_finding_16 : decode cX12_finding 16 = .ok (.bipush 60, 2) := by decide +kernel
theorem dX12_finding_18 : decode cX12_finding 18 = .ok (.invokestatic 250, 3) := by decide +kernel
theorem dX12_finding_21 : decode cX12_finding 21 = .ok (.istore_n 3, 1) := by decide +kernel
theorem dX12_finding_22 : decode cX12_finding 22 = .ok (.iload_n 1, 1) := by decide +kernel
theorem dX12_finding_23 : decode cX12_finding 23 = .ok (.iconst 0, 1) := by decide +kernel
theorem dX12_finding_24 : decode cX12_finding 24 = .ok (.iload_n 3, 1) := by decide +kernel
theorem dX12_finding_25 : decode cX12_finding 25 = .ok (.iconst 1, 1) := by decide +kernel
theorem dX12_finding_26 : decode cX12_finding 26 = .ok (.isub, 1) := by decide +kernel
theorem dX12_finding_27 : decode cX12_finding 27 = .ok (.invokestatic 91, 3) := by decide +kernel
theorem dX12_finding_30 : decode cX12_finding 30 = .ok (.ifCond .eq 26, 3) := by decide +kernel
theorem dX12_finding_33 : decode cX12_finding 33 = .ok (.aload_n 0, 1) := by decide +kernel
theorem dX12_finding_34 : decode cX12_finding 34 = .ok (.getfield 30, 3) := by decide +kernel
theorem dX12_finding_37 : decode cX12_finding 37 = .ok (.iconst 5, 1) := by decide +kernel
theorem dX12_finding_38 : decode cX12_finding 38 = .ok (.aload_n 0, 1) := by decide +kernel
theorem dX12_finding_39 : decode cX12_finding 39 = .ok (.getfield 85, 3) := by decide +kernel
theorem dX12_finding_42 : decode cX12_finding 42 = .ok (.iload_n 3, 1) := by decide +kernel
theorem dX12_finding_43 : decode cX12_finding 43 = .ok (.isub, 1) := by decide +kernel
theorem dX12_finding_44 : decode cX12_finding 44 = .ok (.iload_n 1, 1) := by decide +kernel
theorem dX12_finding_45 : decode cX12_finding 45 = .ok (.iadd, 1) := by decide +kernel
theorem dX12_finding_46 : decode cX12_finding 46 = .ok (.bipush 60, 2) := by decide +kernel
theorem dX12_finding_48 : decode cX12_finding 48 = .ok (.irem, 1) := by decide +kernel
theorem dX12_finding_49 : decode cX12_finding 49 = .ok (.imul, 1) := by decide +kernel
theorem dX12_finding_50 : decode cX12_finding 50 = .ok (.iload_n 2, 1) := by decide +kernel
theorem dX12_finding_51 : decode cX12_finding 51 = .ok (.iadd, 1) := by decide +kernel
theorem dX12_finding_52 : decode cX12_finding 52 = .ok (.iaload, 1) := by decide +kernel
theorem dX12_finding_53 : decode cX12_finding 53 = .ok (.goto 4, 3) := by decide +kernel
theorem dX12_finding_56 : decode cX12_finding 56 = .ok (.iconst (-1), 1) := by decide +kernel
theorem dX12_finding_57 : decode cX12_finding 57 = .ok (.ireturn, 1) := by decide +kernel
theorem dX12_trace_0 : decode cX12_trace 0 = .ok (.aload_n 0, 1) := by decide +kernel
theorem dX12_trace_1 : decode cX12_trace 1 = .ok (.getfield 82, 3) := by decide +kernel
theorem dX12_trace_4 : decode cX12_trace 4 = .ok (.bipush 60, 2) := by decide +kernel
theorem dX12_trace_6 : decode cX12_trace 6 = .ok (.invokestatic 250, 3) := by decide +kernel
theorem dX12_trace_9 : decode cX12_trace 9 = .ok (.istore_n 2, 1) := by decide +kernel
theorem dX12_trace_10 : decode cX12_trace 10 = .ok (.iload_n 1, 1) := by decide +kernel
theorem dX12_trace_11 : decode cX12_trace 11 = .ok (.iconst 0, 1) := by decide +kernel
theorem dX12_trace_12 : decode cX12_trace 12 = .ok (.iload_n 2, 1) := by decide +kernel
theorem dX12_trace_13 : decode cX12_trace 13 = .ok (.iconst 1, 1) := by decide +kernel
theorem dX12_trace_14 : decode cX12_trace 14 = .ok (.isub, 1) := by decide +kernel
theorem dX12_trace_15 : decode cX12_trace 15 = .ok (.invokestatic 91, 3) := by decide +kernel
theorem dX12_trace_18 : decode cX12_trace 18 = .ok (.ifCond .eq 22, 3) := by decide +kernel
theorem dX12_trace_21 : decode cX12_trace 21 = .ok (.aload_n 0, 1) := by decide +kernel
theorem dX12_trace_22 : decode cX12_trace 22 = .ok (.getfield 33, 3) := by decide +kernel
theorem dX12_trace_25 : decode cX12_trace 25 = .ok (.aload_n 0, 1) := by decide +kernel
theorem dX12_trace_26 : decode cX12_trace 26 = .ok (.getfield 82, 3) := by decide +kernel
theorem dX12_trace_29 : decode cX12_trace 29 = .ok (.iload_n 2, 1) := by decide +kernel
theorem dX12_trace_30 : decode cX12_trace 30 = .ok (.isub, 1) := by decide +kernel
theorem dX12_trace_31 : decode cX12_trace 31 = .ok (.iload_n 1, 1) := by decide +kernel
theorem dX12_trace_32 : decode cX12_trace 32 = .ok (.iadd, 1) := by decide +kernel
theorem dX12_trace_33 : decode cX12_trace 33 = .ok (.bipush 60, 2) := by decide +kernel
theorem dX12_trace_35 : decode cX12_trace 35 = .ok (.irem, 1) := by decide +kernel
theorem dX12_trace_36 : decode cX12_trace 36 = .ok (.iaload, 1) := by decide +kernel
theorem dX12_trace_37 : decode cX12_trace 37 = .ok (.goto 4, 3) := by decide +kernel
theorem dX12_trace_40 : decode cX12_trace 40 = .ok (.iconst (-1), 1) := by decide +kernel
theorem dX12_trace_41 : decode cX12_trace 41 = .ok (.ireturn, 1) := by decide +kernel
theorem dX12_forget_0 : decode cX12_forget 0 = .ok (.aload_n 0, 1) := by decide +kernel
theorem dX12_forget_1 : decode cX12_forget 1 = .ok (.getfield 82, 3) := by decide +kernel
theorem dX12_forget_4 : decode cX12_forget 4 = .ok (.istore_n 1, 1) := by decide +kernel
theorem dX12_forget_5 : decode cX12_forget 5 = .ok (.aload_n 0, 1) := by decide +kernel
theorem dX12_forget_6 : decode cX12_forget 6 = .ok (.iconst 0, 1) := by decide +kernel
theorem dX12_forget_7 : decode cX12_forget 7 = .ok (.putfield 82, 3) := by decide +kernel
theorem dX12_forget_10 : decode cX12_forget 10 = .ok (.iload_n 1, 1) := by decide +kernel
theorem dX12_forget_11 : decode cX12_forget 11 = .ok (.ireturn, 1) := by decide +kernel
theorem dX12_count_0 : decode cX12_count 0 = .ok (.iconst 0, 1) := by decide +kernel
theorem dX12_count_1 : decode cX12_count 1 = .ok (.istore_n 2, 1) := by decide +kernel
theorem dX12_count_2 : decode cX12_count 2 = .ok (.iconst 0, 1) := by decide +kernel
theorem dX12_count_3 : decode cX12_count 3 = .ok (.istore_n 3, 1) := by decide +kernel
theorem dX12_count_4 : decode cX12_count 4 = .ok (.iload_n 3, 1) := by decide +kernel
theorem dX12_count_5 : decode cX12_count 5 = .ok (.iconst 4, 1) := by decide +kernel
theorem dX12_count_6 : decode cX12_count 6 = .ok (.if_icmp .ge 26, 3) := by decide +kernel
theorem dX12_count_9 : decode cX12_count 9 = .ok (.iload_n 2, 1) := by decide +kernel
theorem dX12_count_10 : decode cX12_count 10 = .ok (.aload_n 0, 1) := by decide +kernel
theorem dX12_count_11 : decode cX12_count 11 = .ok (.getfield 14, 3) := by decide +kernel
theorem dX12_count_14 : decode cX12_count 14 = .ok (.iload_n 3, 1) := by decide +kernel
theorem dX12_count_15 : decode cX12_count 15 = .ok (.baload, 1) := by decide +kernel
theorem dX12_count_16 : decode cX12_count 16 = .ok (.ifCond .eq 7, 3) := by decide +kernel
theorem dX12_count_19 : decode cX12_count 19 = .ok (.iconst 1, 1) := by decide +kernel
theorem dX12_count_20 : decode cX12_count 20 = .ok (.goto 4, 3) := by decide +kernel
theorem dX12_count_23 : decode cX12_count 23 = .ok (.iconst 0, 1) := by decide +kernel
theorem dX12_count_24 : decode cX12_count 24 = .ok (.iadd, 1) := by decide +kernel
theorem dX12_count_25 : decode cX12_count 25 = .ok (.istore_n 2, 1) := by decide +kernel
theorem dX12_count_26 : decode cX12_count 26 = .ok (.iinc 3 1, 3) := by decide +kernel
theorem dX12_count_29 : decode cX12_count 29 = .ok (.goto (-25), 3) := by decide +kernel
theorem dX12_count_32 : decode cX12_count 32 = .ok (.iconst 0, 1) := by decide +kernel
theorem dX12_count_33 : decode cX12_count 33 = .ok (.istore_n 3, 1) := by decide +kernel
theorem dX12_count_34 : decode cX12_count 34 = .ok (.iconst 0, 1) := by decide +kernel
theorem dX12_count_35 : decode cX12_count 35 = .ok (.istore 4, 2) := by decide +kernel
theorem dX12_count_37 : decode cX12_count 37 = .ok (.iload 4, 2) := by decide +kernel
theorem dX12_count_39 : decode cX12_count 39 = .ok (.bipush 6, 2) := by decide +kernel
theorem dX12_count_41 : decode cX12_count 41 = .ok (.if_icmp .ge 26, 3) := by decide +kernel
theorem dX12_count_44 : decode cX12_count 44 = .ok (.iload_n 3, 1) := by decide +kernel
theorem dX12_count_45 : decode cX12_count 45 = .ok (.aload_n 0, 1) := by decide +kernel
theorem dX12_count_46 : decode cX12_count 46 = .ok (.iload 4, 2) := by decide +kernel
theorem dX12_count_48 : decode cX12_count 48 = .ok (.invokevirtual 99, 3) := by decide +kernel
theorem dX12_count_51 : decode cX12_count 51 = .ok (.ifCond .eq 7, 3) := by decide +kernel
theorem dX12_count_54 : decode cX12_count 54 = .ok (.iconst 1, 1) := by decide +kernel
theorem dX12_count_55 : decode cX12_count 55 = .ok (.goto 4, 3) := by decide +kernel
theorem dX12_count_58 : decode cX12_count 58 = .ok (.iconst 0, 1) := by decide +kernel
theorem dX12_count_59 : decode cX12_count 59 = .ok (.iadd, 1) := by decide +kernel
theorem dX12_count_60 : decode cX12_count 60 = .ok (.istore_n 3, 1) := by decide +kernel
theorem dX12_count_61 : decode cX12_count 61 = .ok (.iinc 4 1, 3) := by decide +kernel
theorem dX12_count_64 : decode cX12_count 64 = .ok (.goto (-27), 3) := by decide +kernel
theorem dX12_count_67 : decode cX12_count 67 = .ok (.iload_n 1, 1) := by decide +kernel
theorem dX12_count_68 : decode cX12_count 68 = .ok (.tableswitch 55 0 4 #[36, 41, 46, 51, 53], 36) := by decide +kernel
theorem dX12_count_104 : decode cX12_count 104 = .ok (.aload_n 0, 1) := by decide +kernel
theorem dX12_count_105 : decode cX12_count 105 = .ok (.getfield 88, 3) := by decide +kernel
theorem dX12_count_108 : decode cX12_count 108 = .ok (.ireturn, 1) := by decide +kernel
theorem dX12_count_109 : decode cX12_count 109 = .ok (.aload_n 0, 1) := by decide +kernel
theorem dX12_count_110 : decode cX12_count 110 = .ok (.getfield 85, 3) := by decide +kernel
theorem dX12_count_113 : decode cX12_count 113 = .ok (.ireturn, 1) := by decide +kernel
theorem dX12_count_114 : decode cX12_count 114 = .ok (.aload_n 0, 1) := by decide +kernel
theorem dX12_count_115 : decode cX12_count 115 = .ok (.getfield 175, 3) := by decide +kernel
theorem dX12_count_118 : decode cX12_count 118 = .ok (.ireturn, 1) := by decide +kernel
theorem dX12_count_119 : decode cX12_count 119 = .ok (.iload_n 2, 1) := by decide +kernel
theorem dX12_count_120 : decode cX12_count 120 = .ok (.ireturn, 1) := by decide +kernel
theorem dX12_count_121 : decode cX12_count 121 = .ok (.iload_n 3, 1) := by decide +kernel
theorem dX12_count_122 : decode cX12_count 122 = .ok (.ireturn, 1) := by decide +kernel
theorem dX12_count_123 : decode cX12_count 123 = .ok (.bipush (-3), 2) := by decide +kernel
theorem dX12_count_125 : decode cX12_count 125 = .ok (.ireturn, 1) := by decide +kernel
theorem dX12_status_0 : decode cX12_status 0 = .ok (.aload_n 0, 1) := by decide +kernel
theorem dX12_status_1 : decode cX12_status 1 = .ok (.iload_n 1, 1) := by decide +kernel
theorem dX12_status_2 : decode cX12_status 2 = .ok (.invokevirtual 107, 3) := by decide +kernel
theorem dX12_status_5 : decode cX12_status 5 = .ok (.ifCond .ne 6, 3) := by decide +kernel
theorem dX12_status_8 : decode cX12_status 8 = .ok (.bipush (-2), 2) := by decide +kernel
theorem dX12_status_10 : decode cX12_status 10 = .ok (.ireturn, 1) := by decide +kernel
theorem dX12_status_11 : decode cX12_status 11 = .ok (.sipush 1290, 3) := by decide +kernel
theorem dX12_status_14 : decode cX12_status 14 = .ok (.iload_n 1, 1) := by decide +kernel
theorem dX12_status_15 : decode cX12_status 15 = .ok (.imul, 1) := by decide +kernel
theorem dX12_status_16 : decode cX12_status 16 = .ok (.istore_n 3, 1) := by decide +kernel
theorem dX12_status_17 : decode cX12_status 17 = .ok (.iload_n 2, 1) := by decide +kernel
theorem dX12_status_18 : decode cX12_status 18 = .ok (.tableswitch 148 0 8 #[50, 59, 69, 79, 101, 111, 121, 131, 141], 50) := by decide +kernel
theorem dX12_status_68 : decode cX12_status 68 = .ok (.aload_n 0, 1) := by decide +kernel
theorem dX12_status_69 : decode cX12_status 69 = .ok (.getfield 8, 3) := by decide +kernel
theorem dX12_status_72 : decode cX12_status 72 = .ok (.iload_n 3, 1) := by decide +kernel
theorem dX12_status_73 : decode cX12_status 73 = .ok (.iconst 5, 1) := by decide +kernel
theorem dX12_status_74 : decode cX12_status 74 = .ok (.iadd, 1) := by decide +kernel
theorem dX12_status_75 : decode cX12_status 75 = .ok (.iaload, 1) := by decide +kernel
theorem dX12_status_76 : decode cX12_status 76 = .ok (.ireturn, 1) := by decide +kernel
theorem dX12_status_77 : decode cX12_status 77 = .ok (.aload_n 0, 1) := by decide +kernel
theorem dX12_status_78 : decode cX12_status 78 = .ok (.getfield 8, 3) := by decide +kernel
theorem dX12_status_81 : decode cX12_status 81 = .ok (.iload_n 3, 1) := by decide +kernel
theorem dX12_status_82 : decode cX12_status 82 = .ok (.bipush 6, 2) := by decide +kernel
theorem dX12_status_84 : decode cX12_status 84 = .ok (.iadd, 1) := by decide +kernel
theorem dX12_status_85 : decode cX12_status 85 = .ok (.iaload, 1) := by decide +kernel
theorem dX12_status_86 : decode cX12_status 86 = .ok (.ireturn, 1) := by decide +kernel
theorem dX12_status_87 : decode cX12_status 87 = .ok (.aload_n 0, 1) := by decide +kernel
theorem dX12_status_88 : decode cX12_status 88 = .ok (.getfield 8, 3) := by decide +kernel
theorem dX12_status_91 : decode cX12_status 91 = .ok (.iload_n 3, 1) := by decide +kernel
theorem dX12_status_92 : decode cX12_status 92 = .ok (.bipush 8, 2) := by decide +kernel
theorem dX12_status_94 : decode cX12_status 94 = .ok (.iadd, 1) := by decide +kernel
theorem dX12_status_95 : decode cX12_status 95 = .ok (.iaload, 1) := by decide +kernel
theorem dX12_status_96 : decode cX12_status 96 = .ok (.ireturn, 1) := by decide +kernel
theorem dX12_status_97 : decode cX12_status 97 = .ok (.aload_n 0, 1) := by decide +kernel
theorem dX12_status_98 : decode cX12_status 98 = .ok (.getfield 8, 3) := by decide +kernel
theorem dX12_status_101 : decode cX12_status 101 = .ok (.iload_n 3, 1) := by decide +kernel
theorem dX12_status_102 : decode cX12_status 102 = .ok (.bipush 15, 2) := by decide +kernel
theorem dX12_status_104 : decode cX12_status 104 = .ok (.iadd, 1) := by decide +kernel
theorem dX12_status_105 : decode cX12_status 105 = .ok (.iaload, 1) := by decide +kernel
theorem dX12_status_106 : decode cX12_status 106 = .ok (.aload_n 0, 1) := by decide +kernel
theorem dX12_status_107 : decode cX12_status 107 = .ok (.getfield 8, 3) := by decide +kernel
theorem dX12_status_110 : decode cX12_status 110 = .ok (.iload_n 3, 1) := by decide +kernel
theorem dX12_status_111 : decode cX12_status 111 = .ok (.bipush 15, 2) := by decide +kernel
theorem dX12_status_113 : decode cX12_status 113 = .ok (.iadd, 1) := by decide +kernel
theorem dX12_status_114 : decode cX12_status 114 = .ok (.iconst 1, 1) := by decide +kernel
theorem dX12_status_115 : decode cX12_status 115 = .ok (.iadd, 1) := by decide +kernel
theorem dX12_status_116 : decode cX12_status 116 = .ok (.iaload, 1) := by decide +kernel
theorem dX12_status_117 : decode cX12_status 117 = .ok (.iadd, 1) := by decide +kernel
theorem dX12_status_118 : decode cX12_status 118 = .ok (.ireturn, 1) := by decide +kernel
theorem dX12_status_119 : decode cX12_status 119 = .ok (.aload_n 0, 1) := by decide +kernel
theorem dX12_status_120 : decode cX12_status 120 = .ok (.getfield 8, 3) := by decide +kernel
theorem dX12_status_123 : decode cX12_status 123 = .ok (.iload_n 3, 1) := by decide +kernel
theorem dX12_status_124 : decode cX12_status 124 = .ok (.bipush 10, 2) := by decide +kernel
theorem dX12_status_126 : decode cX12_status 126 = .ok (.iadd, 1) := by decide +kernel
theorem dX12_status_127 : decode cX12_status 127 = .ok (.iaload, 1) := by decide +kernel
theorem dX12_status_128 : decode cX12_status 128 = .ok (.ireturn, 1) := by decide +kernel
theorem dX12_status_129 : decode cX12_status 129 = .ok (.aload_n 0, 1) := by decide +kernel
theorem dX12_status_130 : decode cX12_status 130 = .ok (.getfield 8, 3) := by decide +kernel
theorem dX12_status_133 : decode cX12_status 133 = .ok (.iload_n 3, 1) := by decide +kernel
theorem dX12_status_134 : decode cX12_status 134 = .ok (.bipush 11, 2) := by decide +kernel
theorem dX12_status_136 : decode cX12_status 136 = .ok (.iadd, 1) := by decide +kernel
theorem dX12_status_137 : decode cX12_status 137 = .ok (.iaload, 1) := by decide +kernel
theorem dX12_status_138 : decode cX12_status 138 = .ok (.ireturn, 1) := by decide +kernel
theorem dX12_status_139 : decode cX12_status 139 = .ok (.aload_n 0, 1) := by decide +kernel
theorem dX12_status_140 : decode cX12_status 140 = .ok (.getfield 8, 3) := by decide +kernel
theorem dX12_status_143 : decode cX12_status 143 = .ok (.iload_n 3, 1) := by decide +kernel
theorem dX12_status_144 : decode cX12_status 144 = .ok (.bipush 12, 2) := by decide +kernel
theorem dX12_status_146 : decode cX12_status 146 = .ok (.iadd, 1) := by decide +kernel
theorem dX12_status_147 : decode cX12_status 147 = .ok (.iaload, 1) := by decide +kernel
theorem dX12_status_148 : decode cX12_status 148 = .ok (.ireturn, 1) := by decide +kernel
theorem dX12_status_149 : decode cX12_status 149 = .ok (.aload_n 0, 1) := by decide +kernel
theorem dX12_status_150 : decode cX12_status 150 = .ok (.getfield 8, 3) := by decide +kernel
theorem dX12_status_153 : decode cX12_status 153 = .ok (.iload_n 3, 1) := by decide +kernel
theorem dX12_status_154 : decode cX12_status 154 = .ok (.bipush 13, 2) := by decide +kernel
theorem dX12_status_156 : decode cX12_status 156 = .ok (.iadd, 1) := by decide +kernel
theorem dX12_status_157 : decode cX12_status 157 = .ok (.iaload, 1) := by decide +kernel
theorem dX12_status_158 : decode cX12_status 158 = .ok (.ireturn, 1) := by decide +kernel
theorem dX12_status_159 : decode cX12_status 159 = .ok (.aload_n 0, 1) := by decide +kernel
theorem dX12_status_160 : decode cX12_status 160 = .ok (.getfield 18, 3) := by decide +kernel
theorem dX12_status_163 : decode cX12_status 163 = .ok (.iload_n 1, 1) := by decide +kernel
theorem dX12_status_164 : decode cX12_status 164 = .ok (.iaload, 1) := by decide +kernel
theorem dX12_status_165 : decode cX12_status 165 = .ok (.ireturn, 1) := by decide +kernel
theorem dX12_status_166 : decode cX12_status 166 = .ok (.bipush (-3), 2) := by decide +kernel
theorem dX12_status_168 : decode cX12_status 168 = .ok (.ireturn, 1) := by decide +kernel
theorem dJ9_max_7cf53_0 : decode cJ9_max_7cf53 0 = .ok (.iload_n 0, 1) := by decide +kernel
theorem dJ9_max_7cf53_1 : decode cJ9_max_7cf53 1 = .ok (.iload_n 1, 1) := by decide +kernel
theorem dJ9_max_7cf53_2 : decode cJ9_max_7cf53 2 = .ok (.if_icmp .lt 7, 3) := by decide +kernel
theorem dJ9_max_7cf53_5 : decode cJ9_max_7cf53 5 = .ok (.iload_n 0, 1) := by decide +kernel
theorem dJ9_max_7cf53_6 : decode cJ9_max_7cf53 6 = .ok (.goto 4, 3) := by decide +kernel
theorem dJ9_max_7cf53_9 : decode cJ9_max_7cf53 9 = .ok (.iload_n 1, 1) := by decide +kernel
theorem dJ9_max_7cf53_10 : decode cJ9_max_7cf53 10 = .ok (.ireturn, 1) := by decide +kernel
theorem dJ9_min_7cf53_0 : decode cJ9_min_7cf53 0 = .ok (.iload_n 0, 1) := by decide +kernel
theorem dJ9_min_7cf53_1 : decode cJ9_min_7cf53 1 = .ok (.iload_n 1, 1) := by decide +kernel
theorem dJ9_min_7cf53_2 : decode cJ9_min_7cf53 2 = .ok (.if_icmp .gt 7, 3) := by decide +kernel
theorem dJ9_min_7cf53_5 : decode cJ9_min_7cf53 5 = .ok (.iload_n 0, 1) := by decide +kernel
theorem dJ9_min_7cf53_6 : decode cJ9_min_7cf53 6 = .ok (.goto 4, 3) := by decide +kernel
theorem dJ9_min_7cf53_9 : decode cJ9_min_7cf53 9 = .ok (.iload_n 1, 1) := by decide +kernel
theorem dJ9_min_7cf53_10 : decode cJ9_min_7cf53 10 = .ok (.ireturn, 1) := by decide +kernel
theorem dJ7_fill_53178_0 : decode cJ7_fill_53178 0 = .ok (.iconst 0, 1) := by decide +kernel
theorem dJ7_fill_53178_1 : decode cJ7_fill_53178 1 = .ok (.istore_n 2, 1) := by decide +kernel
theorem dJ7_fill_53178_2 : decode cJ7_fill_53178 2 = .ok (.aload_n 0, 1) := by decide +kernel
theorem dJ7_fill_53178_3 : decode cJ7_fill_53178 3 = .ok (.arraylength, 1) := by decide +kernel
theorem dJ7_fill_53178_4 : decode cJ7_fill_53178 4 = .ok (.istore_n 3, 1) := by decide +kernel
theorem dJ7_fill_53178_5 : decode cJ7_fill_53178 5 = .ok (.iload_n 2, 1) := by decide +kernel
theorem dJ7_fill_53178_6 : decode cJ7_fill_53178 6 = .ok (.iload_n 3, 1) := by decide +kernel
theorem dJ7_fill_53178_7 : decode cJ7_fill_53178 7 = .ok (.if_icmp .ge 13, 3) := by decide +kernel
theorem dJ7_fill_53178_10 : decode cJ7_fill_53178 10 = .ok (.aload_n 0, 1) := by decide +kernel
theorem dJ7_fill_53178_11 : decode cJ7_fill_53178 11 = .ok (.iload_n 2, 1) := by decide +kernel
theorem dJ7_fill_53178_12 : decode cJ7_fill_53178 12 = .ok (.iload_n 1, 1) := by decide +kernel
theorem dJ7_fill_53178_13 : decode cJ7_fill_53178 13 = .ok (.iastore, 1) := by decide +kernel
theorem dJ7_fill_53178_14 : decode cJ7_fill_53178 14 = .ok (.iinc 2 1, 3) := by decide +kernel
theorem dJ7_fill_53178_17 : decode cJ7_fill_53178 17 = .ok (.goto (-12), 3) := by decide +kernel
theorem dJ7_fill_53178_20 : decode cJ7_fill_53178 20 = .ok (.return_, 1) := by decide +kernel
theorem dL_law_0 : decode cL_law 0 = .ok (.new 7, 3) := by decide +kernel
theorem dL_law_3 : decode cL_law 3 = .ok (.dup, 1) := by decide +kernel
theorem dL_law_4 : decode cL_law 4 = .ok (.invokespecial 9, 3) := by decide +kernel
theorem dL_law_7 : decode cL_law 7 = .ok (.astore_n 1, 1) := by decide +kernel
theorem dL_law_8 : decode cL_law 8 = .ok (.new 10, 3) := by decide +kernel
theorem dL_law_11 : decode cL_law 11 = .ok (.dup, 1) := by decide +kernel
theorem dL_law_12 : decode cL_law 12 = .ok (.invokespecial 12, 3) := by decide +kernel
theorem dL_law_15 : decode cL_law 15 = .ok (.astore_n 2, 1) := by decide +kernel
theorem dL_law_16 : decode cL_law 16 = .ok (.iconst 0, 1) := by decide +kernel
theorem dL_law_17 : decode cL_law 17 = .ok (.istore_n 3, 1) := by decide +kernel
theorem dL_law_18 : decode cL_law 18 = .ok (.iload_n 3, 1) := by decide +kernel
theorem dL_law_19 : decode cL_law 19 = .ok (.aload_n 0, 1) := by decide +kernel
theorem dL_law_20 : decode cL_law 20 = .ok (.arraylength, 1) := by decide +kernel
theorem dL_law_21 : decode cL_law 21 = .ok (.iconst 5, 1) := by decide +kernel
theorem dL_law_22 : decode cL_law 22 = .ok (.isub, 1) := by decide +kernel
theorem dL_law_23 : decode cL_law 23 = .ok (.if_icmp .gt 1402, 3) := by decide +kernel
theorem dL_law_26 : decode cL_law 26 = .ok (.aload_n 0, 1) := by decide +kernel
theorem dL_law_27 : decode cL_law 27 = .ok (.iload_n 3, 1) := by decide +kernel
theorem dL_law_28 : decode cL_law 28 = .ok (.iaload, 1) := by decide +kernel
theorem dL_law_29 : decode cL_law 29 = .ok (.bipush 63, 2) := by decide +kernel
theorem dL_law_31 : decode cL_law 31 = .ok (.iand, 1) := by decide +kernel
theorem dL_law_32 : decode cL_law 32 = .ok (.tableswitch 1387 0 34 #[156, 209, 232, 275, 334, 377, 410, 443, 486, 529, 582, 615, 658, 701, 744, 767, 800, 843, 876, 899, 942, 985, 1018, 1041, 1074, 1117, 1150, 1193, 1216, 1239, 1262, 1295, 1318, 1331, 1354], 156) := by decide +kernel
theorem dL_law_188 : decode cL_law 188 = .ok (.aload_n 1, 1) := by decide +kernel
theorem dL_law_189 : decode cL_law 189 = .ok (.aload_n 0, 1) := by decide +kernel
theorem dL_law_190 : decode cL_law 190 = .ok (.iload_n 3, 1) := by decide +kernel
theorem dL_law_191 : decode cL_law 191 = .ok (.iconst 1, 1) := by decide +kernel
theorem dL_law_192 : decode cL_law 192 = .ok (.iadd, 1) := by decide +kernel
theorem dL_law_193 : decode cL_law 193 = .ok (.iaload, 1) := by decide +kernel
theorem dL_law_194 : decode cL_law 194 = .ok (.aload_n 0, 1) := by decide +kernel
theorem dL_law_195 : decode cL_law 195 = .ok (.iload_n 3, 1) := by decide +kernel
theorem dL_law_196 : decode cL_law 196 = .ok (.iconst 2, 1) := by decide +kernel
theorem dL_law_197 : decode cL_law 197 = .ok (.iadd, 1) := by decide +kernel
theorem dL_law_198 : decode cL_law 198 = .ok (.iaload, 1) := by decide +kernel
theorem dL_law_199 : decode cL_law 199 = .ok (.aload_n 0, 1) := by decide +kernel
theorem dL_law_200 : decode cL_law 200 = .ok (.iload_n 3, 1) := by decide +kernel
theorem dL_law_201 : decode cL_law 201 = .ok (.iconst 3, 1) := by decide +kernel
theorem dL_law_202 : decode cL_law 202 = .ok (.iadd, 1) := by decide +kernel
theorem dL_law_203 : decode cL_law 203 = .ok (.iaload, 1) := by decide +kernel
theorem dL_law_204 : decode cL_law 204 = .ok (.aload_n 0, 1) := by decide +kernel
theorem dL_law_205 : decode cL_law 205 = .ok (.iload_n 3, 1) := by decide +kernel
theorem dL_law_206 : decode cL_law 206 = .ok (.iconst 4, 1) := by decide +kernel
theorem dL_law_207 : decode cL_law 207 = .ok (.iadd, 1) := by decide +kernel
theorem dL_law_208 : decode cL_law 208 = .ok (.iaload, 1) := by decide +kernel
theorem dL_law_209 : decode cL_law 209 = .ok (.invokevirtual 13, 3) := by decide +kernel
theorem dL_law_212 : decode cL_law 212 = .ok (.pop, 1) := by decide +kernel
theorem dL_law_213 : decode cL_law 213 = .ok (.aload_n 2, 1) := by decide +kernel
theorem dL_law_214 : decode cL_law 214 = .ok (.aload_n 0, 1) := by decide +kernel
theorem dL_law_215 : decode cL_law 215 = .ok (.iload_n 3, 1) := by decide +kernel
theorem dL_law_216 : decode cL_law 216 = .ok (.iconst 1, 1) := by decide +kernel
theorem dL_law_217 : decode cL_law 217 = .ok (.iadd, 1) := by decide +kernel
theorem dL_law_218 : decode cL_law 218 = .ok (.iaload, 1) := by decide +kernel
theorem dL_law_219 : decode cL_law 219 = .ok (.aload_n 0, 1) := by decide +kernel
theorem dL_law_220 : decode cL_law 220 = .ok (.iload_n 3, 1) := by decide +kernel
theorem dL_law_221 : decode cL_law 221 = .ok (.iconst 2, 1) := by decide +kernel
theorem dL_law_222 : decode cL_law 222 = .ok (.iadd, 1) := by decide +kernel
theorem dL_law_223 : decode cL_law 223 = .ok (.iaload, 1) := by decide +kernel
theorem dL_law_224 : decode cL_law 224 = .ok (.aload_n 0, 1) := by decide +kernel
theorem dL_law_225 : decode cL_law 225 = .ok (.iload_n 3, 1) := by decide +kernel
theorem dL_law_226 : decode cL_law 226 = .ok (.iconst 3, 1) := by decide +kernel
theorem dL_law_227 : decode cL_law 227 = .ok (.iadd, 1) := by decide +kernel
theorem dL_law_228 : decode cL_law 228 = .ok (.iaload, 1) := by decide +kernel
theorem dL_law_229 : decode cL_law 229 = .ok (.aload_n 0, 1) := by decide +kernel
theorem dL_law_230 : decode cL_law 230 = .ok (.iload_n 3, 1) := by decide +kernel
theorem dL_law_231 : decode cL_law 231 = .ok (.iconst 4, 1) := by decide +kernel
theorem dL_law_232 : decode cL_law 232 = .ok (.iadd, 1) := by decide +kernel
theorem dL_law_233 : decode cL_law 233 = .ok (.iaload, 1) := by decide +kernel
theorem dL_law_234 : decode cL_law 234 = .ok (.invokevirtual 17, 3) := by decide +kernel
theorem dL_law_237 : decode cL_law 237 = .ok (.pop, 1) := by decide +kernel
theorem dL_law_238 : decode cL_law 238 = .ok (.goto 1181, 3) := by decide +kernel
theorem dL_law_241 : decode cL_law 241 = .ok (.aload_n 1, 1) := by decide +kernel
theorem dL_law_242 : decode cL_law 242 = .ok (.aload_n 0, 1) := by decide +kernel
theorem dL_law_243 : decode cL_law 243 = .ok (.iload_n 3, 1) := by decide +kernel
theorem dL_law_244 : decode cL_law 244 = .ok (.iconst 1, 1) := by decide +kernel
theorem dL_law_245 : decode cL_law 245 = .ok (.iadd, 1) := by decide +kernel
theorem dL_law_246 : decode cL_law 246 = .ok (.iaload, 1) := by decide +kernel
theorem dL_law_247 : decode cL_law 247 = .ok (.invokevirtual 18, 3) := by decide +kernel
theorem dL_law_250 : decode cL_law 250 = .ok (.pop, 1) := by decide +kernel
theorem dL_law_251 : decode cL_law 251 = .ok (.aload_n 2, 1) := by decide +kernel
theorem dL_law_252 : decode cL_law 252 = .ok (.aload_n 0, 1) := by decide +kernel
theorem dL_law_253 : decode cL_law 253 = .ok (.iload_n 3, 1) := by decide +kernel
theorem dL_law_254 : decode cL_law 254 = .ok (.iconst 1, 1) := by decide +kernel
theorem dL_law_255 : decode cL_law 255 = .ok (.iadd, 1) := by decide +kernel
theorem dL_law_256 : decode cL_law 256 = .ok (.iaload, 1) := by decide +kernel
theorem dL_law_257 : decode cL_law 257 = .ok (.invokevirtual 22, 3) := by decide +kernel
theorem dL_law_260 : decode cL_law 260 = .ok (.pop, 1) := by decide +kernel
theorem dL_law_261 : decode cL_law 261 = .ok (.goto 1158, 3) := by decide +kernel
theorem dL_law_264 : decode cL_law 264 = .ok (.aload_n 1, 1) := by decide +kernel
theorem dL_law_265 : decode cL_law 265 = .ok (.aload_n 0, 1) := by decide +kernel
theorem dL_law_266 : decode cL_law 266 = .ok (.iload_n 3, 1) := by decide +kernel
theorem dL_law_267 : decode cL_law 267 = .ok (.iconst 1, 1) := by decide +kernel
theorem dL_law_268 : decode cL_law 268 = .ok (.iadd, 1) := by decide +kernel
theorem dL_law_269 : decode cL_law 269 = .ok (.iaload, 1) := by decide +kernel
theorem dL_law_270 : decode cL_law 270 = .ok (.aload_n 0, 1) := by decide +kernel
theorem dL_law_271 : decode cL_law 271 = .ok (.iload_n 3, 1) := by decide +kernel
theorem dL_law_272 : decode cL_law 272 = .ok (.iconst 2, 1) := by decide +kernel
theorem dL_law_273 : decode cL_law 273 = .ok (.iadd, 1) := by decide +kernel
theorem dL_law_274 : decode cL_law 274 = .ok (.iaload, 1) := by decide +kernel
theorem dL_law_275 : decode cL_law 275 = .ok (.aload_n 0, 1) := by decide +kernel
theorem dL_law_276 : decode cL_law 276 = .ok (.iload_n 3, 1) := by decide +kernel
theorem dL_law_277 : decode cL_law 277 = .ok (.iconst 3, 1) := by decide +kernel
theorem dL_law_278 : decode cL_law 278 = .ok (.iadd, 1) := by decide +kernel
theorem dL_law_279 : decode cL_law 279 = .ok (.iaload, 1) := by decide +kernel
theorem dL_law_280 : decode cL_law 280 = .ok (.invokevirtual 23, 3) := by decide +kernel
theorem dL_law_283 : decode cL_law 283 = .ok (.aload_n 2, 1) := by decide +kernel
theorem dL_law_284 : decode cL_law 284 = .ok (.aload_n 0, 1) := by decide +kernel
theorem dL_law_285 : decode cL_law 285 = .ok (.iload_n 3, 1) := by decide +kernel
theorem dL_law_286 : decode cL_law 286 = .ok (.iconst 1, 1) := by decide +kernel
theorem dL_law_287 : decode cL_law 287 = .ok (.iadd, 1) := by decide +kernel
theorem dL_law_288 : decode cL_law 288 = .ok (.iaload, 1) := by decide +kernel
theorem dL_law_289 : decode cL_law 289 = .ok (.aload_n 0, 1) := by decide +kernel
theorem dL_law_290 : decode cL_law 290 = .ok (.iload_n 3, 1) := by decide +kernel
theorem dL_law_291 : decode cL_law 291 = .ok (.iconst 2, 1) := by decide +kernel
theorem dL_law_292 : decode cL_law 292 = .ok (.iadd, 1) := by decide +kernel
theorem dL_law_293 : decode cL_law 293 = .ok (.iaload, 1) := by decide +kernel
theorem dL_law_294 : decode cL_law 294 = .ok (.aload_n 0, 1) := by decide +kernel
theorem dL_law_295 : decode cL_law 295 = .ok (.iload_n 3, 1) := by decide +kernel
theorem dL_law_296 : decode cL_law 296 = .ok (.iconst 3, 1) := by decide +kernel
theorem dL_law_297 : decode cL_law 297 = .ok (.iadd, 1) := by decide +kernel
theorem dL_law_298 : decode cL_law 298 = .ok (.iaload, 1) := by decide +kernel
theorem dL_law_299 : decode cL_law 299 = .ok (.invokevirtual 27, 3) := by decide +kernel
theorem dL_law_302 : decode cL_law 302 = .ok (.if_icmp .eq 1117, 3) := by decide +kernel
theorem dL_law_305 : decode cL_law 305 = .ok (.iconst 0, 1) := by decide +kernel
theorem dL_law_306 : decode cL_law 306 = .ok (.ireturn, 1) := by decide +kernel
theorem dL_law_307 : decode cL_law 307 = .ok (.aload_n 1, 1) := by decide +kernel
theorem dL_law_308 : decode cL_law 308 = .ok (.aload_n 0, 1) := by decide +kernel
theorem dL_law_309 : decode cL_law 309 = .ok (.iload_n 3, 1) := by decide +kernel
theorem dL_law_310 : decode cL_law 310 = .ok (.iconst 1, 1) := by decide +kernel
theorem dL_law_311 : decode cL_law 311 = .ok (.iadd, 1) := by decide +kernel
theorem dL_law_312 : decode cL_law 312 = .ok (.iaload, 1) := by decide +kernel
theorem dL_law_313 : decode cL_law 313 = .ok (.aload_n 0, 1) := by decide +kernel
theorem dL_law_314 : decode cL_law 314 = .ok (.iload_n 3, 1) := by decide +kernel
theorem dL_law_315 : decode cL_law 315 = .ok (.iconst 2, 1) := by decide +kernel
theorem dL_law_316 : decode cL_law 316 = .ok (.iadd, 1) := by decide +kernel
theorem dL_law_317 : decode cL_law 317 = .ok (.iaload, 1) := by decide +kernel
theorem dL_law_318 : decode cL_law 318 = .ok (.aload_n 0, 1) := by decide +kernel
theorem dL_law_319 : decode cL_law 319 = .ok (.iload_n 3, 1) := by decide +kernel
theorem dL_law_320 : decode cL_law 320 = .ok (.iconst 3, 1) := by decide +kernel
theorem dL_law_321 : decode cL_law 321 = .ok (.iadd, 1) := by decide +kernel
theorem dL_law_322 : decode cL_law 322 = .ok (.iaload, 1) := by decide +kernel
theorem dL_law_323 : decode cL_law 323 = .ok (.ifCond .eq 7, 3) := by decide +kernel
theorem dL_law_326 : decode cL_law 326 = .ok (.iconst 1, 1) := by decide +kernel
theorem dL_law_327 : decode cL_law 327 = .ok (.goto 4, 3) := by decide +kernel
theorem dL_law_330 : decode cL_law 330 = .ok (.iconst 0, 1) := by decide +kernel
theorem dL_law_331 : decode cL_law 331 = .ok (.invokevirtual 28, 3) := by decide +kernel
theorem dL_law_334 : decode cL_law 334 = .ok (.pop, 1) := by decide +kernel
theorem dL_law_335 : decode cL_law 335 = .ok (.aload_n 2, 1) := by decide +kernel
theorem dL_law_336 : decode cL_law 336 = .ok (.aload_n 0, 1) := by decide +kernel
theorem dL_law_337 : decode cL_law 337 = .ok (.iload_n 3, 1) := by decide +kernel
theorem dL_law_338 : decode cL_law 338 = .ok (.iconst 1, 1) := by decide +kernel
theorem dL_law_339 : decode cL_law 339 = .ok (.iadd, 1) := by decide +kernel
theorem dL_law_340 : decode cL_law 340 = .ok (.iaload, 1) := by decide +kernel
theorem dL_law_341 : decode cL_law 341 = .ok (.aload_n 0, 1) := by decide +kernel
theorem dL_law_342 : decode cL_law 342 = .ok (.iload_n 3, 1) := by decide +kernel
theorem dL_law_343 : decode cL_law 343 = .ok (.iconst 2, 1) := by decide +kernel
theorem dL_law_344 : decode cL_law 344 = .ok (.iadd, 1) := by decide +kernel
theorem dL_law_345 : decode cL_law 345 = .ok (.iaload, 1) := by decide +kernel
theorem dL_law_346 : decode cL_law 346 = .ok (.aload_n 0, 1) := by decide +kernel
theorem dL_law_347 : decode cL_law 347 = .ok (.iload_n 3, 1) := by decide +kernel
theorem dL_law_348 : decode cL_law 348 = .ok (.iconst 3, 1) := by decide +kernel
theorem dL_law_349 : decode cL_law 349 = .ok (.iadd, 1) := by decide +kernel
theorem dL_law_350 : decode cL_law 350 = .ok (.iaload, 1) := by decide +kernel
theorem dL_law_351 : decode cL_law 351 = .ok (.ifCond .eq 7, 3) := by decide +kernel
theorem dL_law_354 : decode cL_law 354 = .ok (.iconst 1, 1) := by decide +kernel
theorem dL_law_355 : decode cL_law 355 = .ok (.goto 4, 3) := by decide +kernel
theorem dL_law_358 : decode cL_law 358 = .ok (.iconst 0, 1) := by decide +kernel
theorem dL_law_359 : decode cL_law 359 = .ok (.invokevirtual 32, 3) := by decide +kernel
theorem dL_law_362 : decode cL_law 362 = .ok (.pop, 1) := by decide +kernel
theorem dL_law_363 : decode cL_law 363 = .ok (.goto 1056, 3) := by decide +kernel
theorem dL_law_366 : decode cL_law 366 = .ok (.aload_n 1, 1) := by decide +kernel
theorem dL_law_367 : decode cL_law 367 = .ok (.aload_n 0, 1) := by decide +kernel
theorem dL_law_368 : decode cL_law 368 = .ok (.iload_n 3, 1) := by decide +kernel
theorem dL_law_369 : decode cL_law 369 = .ok (.iconst 1, 1) := by decide +kernel
theorem dL_law_370 : decode cL_law 370 = .ok (.iadd, 1) := by decide +kernel
theorem dL_law_371 : decode cL_law 371 = .ok (.iaload, 1) := by decide +kernel
theorem dL_law_372 : decode cL_law 372 = .ok (.aload_n 0, 1) := by decide +kernel
theorem dL_law_373 : decode cL_law 373 = .ok (.iload_n 3, 1) := by decide +kernel
theorem dL_law_374 : decode cL_law 374 = .ok (.iconst 2, 1) := by decide +kernel
theorem dL_law_375 : decode cL_law 375 = .ok (.iadd, 1) := by decide +kernel
theorem dL_law_376 : decode cL_law 376 = .ok (.iaload, 1) := by decide +kernel
theorem dL_law_377 : decode cL_law 377 = .ok (.aload_n 0, 1) := by decide +kernel
theorem dL_law_378 : decode cL_law 378 = .ok (.iload_n 3, 1) := by decide +kernel
theorem dL_law_379 : decode cL_law 379 = .ok (.iconst 3, 1) := by decide +kernel
theorem dL_law_380 : decode cL_law 380 = .ok (.iadd, 1) := by decide +kernel
theorem dL_law_381 : decode cL_law 381 = .ok (.iaload, 1) := by decide +kernel
theorem dL_law_382 : decode cL_law 382 = .ok (.invokevirtual 33, 3) := by decide +kernel
theorem dL_law_385 : decode cL_law 385 = .ok (.pop, 1) := by decide +kernel
theorem dL_law_386 : decode cL_law 386 = .ok (.aload_n 2, 1) := by decide +kernel
theorem dL_law_387 : decode cL_law 387 = .ok (.aload_n 0, 1) := by decide +kernel
theorem dL_law_388 : decode cL_law 388 = .ok (.iload_n 3, 1) := by decide +kernel
theorem dL_law_389 : decode cL_law 389 = .ok (.iconst 1, 1) := by decide +kernel
theorem dL_law_390 : decode cL_law 390 = .ok (.iadd, 1) := by decide +kernel
theorem dL_law_391 : decode cL_law 391 = .ok (.iaload, 1) := by decide +kernel
theorem dL_law_392 : decode cL_law 392 = .ok (.aload_n 0, 1) := by decide +kernel
theorem dL_law_393 : decode cL_law 393 = .ok (.iload_n 3, 1) := by decide +kernel
theorem dL_law_394 : decode cL_law 394 = .ok (.iconst 2, 1) := by decide +kernel
theorem dL_law_395 : decode cL_law 395 = .ok (.iadd, 1) := by decide +kernel
theorem dL_law_396 : decode cL_law 396 = .ok (.iaload, 1) := by decide +kernel
theorem dL_law_397 : decode cL_law 397 = .ok (.aload_n 0, 1) := by decide +kernel
theorem dL_law_398 : decode cL_law 398 = .ok (.iload_n 3, 1) := by decide +kernel
theorem dL_law_399 : decode cL_law 399 = .ok (.iconst 3, 1) := by decide +kernel
theorem dL_law_400 : decode cL_law 400 = .ok (.iadd, 1) := by decide +kernel
theorem dL_law_401 : decode cL_law 401 = .ok (.iaload, 1) := by decide +kernel
theorem dL_law_402 : decode cL_law 402 = .ok (.invokevirtual 36, 3) := by decide +kernel
theorem dL_law_405 : decode cL_law 405 = .ok (.pop, 1) := by decide +kernel
theorem dL_law_406 : decode cL_law 406 = .ok (.goto 1013, 3) := by decide +kernel
theorem dL_law_409 : decode cL_law 409 = .ok (.aload_n 1, 1) := by decide +kernel
theorem dL_law_410 : decode cL_law 410 = .ok (.aload_n 0, 1) := by decide +kernel
theorem dL_law_411 : decode cL_law 411 = .ok (.iload_n 3, 1) := by decide +kernel
theorem dL_law_412 : decode cL_law 412 = .ok (.iconst 1, 1) := by decide +kernel
theorem dL_law_413 : decode cL_law 413 = .ok (.iadd, 1) := by decide +kernel
theorem dL_law_414 : decode cL_law 414 = .ok (.iaload, 1) := by decide +kernel
theorem dL_law_415 : decode cL_law 415 = .ok (.aload_n 0, 1) := by decide +kernel
theorem dL_law_416 : decode cL_law 416 = .ok (.iload_n 3, 1) := by decide +kernel
theorem dL_law_417 : decode cL_law 417 = .ok (.iconst 2, 1) := by decide +kernel
theorem dL_law_418 : decode cL_law 418 = .ok (.iadd, 1) := by decide +kernel
theorem dL_law_419 : decode cL_law 419 = .ok (.iaload, 1) := by decide +kernel
theorem dL_law_420 : decode cL_law 420 = .ok (.invokevirtual 37, 3) := by decide +kernel
theorem dL_law_423 : decode cL_law 423 = .ok (.pop, 1) := by decide +kernel
theorem dL_law_424 : decode cL_law 424 = .ok (.aload_n 2, 1) := by decide +kernel
theorem dL_law_425 : decode cL_law 425 = .ok (.aload_n 0, 1) := by decide +kernel
theorem dL_law_426 : decode cL_law 426 = .ok (.iload_n 3, 1) := by decide +kernel
theorem dL_law_427 : decode cL_law 427 = .ok (.iconst 1, 1) := by decide +kernel
theorem dL_law_428 : decode cL_law 428 = .ok (.iadd, 1) := by decide +kernel
theorem dL_law_429 : decode cL_law 429 = .ok (.iaload, 1) := by decide +kernel
theorem dL_law_430 : decode cL_law 430 = .ok (.aload_n 0, 1) := by decide +kernel
theorem dL_law_431 : decode cL_law 431 = .ok (.iload_n 3, 1) := by decide +kernel
theorem dL_law_432 : decode cL_law 432 = .ok (.iconst 2, 1) := by decide +kernel
theorem dL_law_433 : decode cL_law 433 = .ok (.iadd, 1) := by decide +kernel
theorem dL_law_434 : decode cL_law 434 = .ok (.iaload, 1) := by decide +kernel
theorem dL_law_435 : decode cL_law 435 = .ok (.invokevirtual 41, 3) := by decide +kernel
theorem dL_law_438 : decode cL_law 438 = .ok (.pop, 1) := by decide +kernel
theorem dL_law_439 : decode cL_law 439 = .ok (.goto 980, 3) := by decide +kernel
theorem dL_law_442 : decode cL_law 442 = .ok (.aload_n 1, 1) := by decide +kernel
theorem dL_law_443 : decode cL_law 443 = .ok (.aload_n 0, 1) := by decide +kernel
theorem dL_law_444 : decode cL_law 444 = .ok (.iload_n 3, 1) := by decide +kernel
theorem dL_law_445 : decode cL_law 445 = .ok (.iconst 1, 1) := by decide +kernel
theorem dL_law_446 : decode cL_law 446 = .ok (.iadd, 1) := by decide +kernel
theorem dL_law_447 : decode cL_law 447 = .ok (.iaload, 1) := by decide +kernel
theorem dL_law_448 : decode cL_law 448 = .ok (.aload_n 0, 1) := by decide +kernel
theorem dL_law_449 : decode cL_law 449 = .ok (.iload_n 3, 1) := by decide +kernel
theorem dL_law_450 : decode cL_law 450 = .ok (.iconst 2, 1) := by decide +kernel
theorem dL_law_451 : decode cL_law 451 = .ok (.iadd, 1) := by decide +kernel
theorem dL_law_452 : decode cL_law 452 = .ok (.iaload, 1) := by decide +kernel
theorem dL_law_453 : decode cL_law 453 = .ok (.invokevirtual 42, 3) := by decide +kernel
theorem dL_law_456 : decode cL_law 456 = .ok (.pop, 1) := by decide +kernel
theorem dL_law_457 : decode cL_law 457 = .ok (.aload_n 2, 1) := by decide +kernel
theorem dL_law_458 : decode cL_law 458 = .ok (.aload_n 0, 1) := by decide +kernel
theorem dL_law_459 : decode cL_law 459 = .ok (.iload_n 3, 1) := by decide +kernel
theorem dL_law_460 : decode cL_law 460 = .ok (.iconst 1, 1) := by decide +kernel
theorem dL_law_461 : decode cL_law 461 = .ok (.iadd, 1) := by decide +kernel
theorem dL_law_462 : decode cL_law 462 = .ok (.iaload, 1) := by decide +kernel
theorem dL_law_463 : decode cL_law 463 = .ok (.aload_n 0, 1) := by decide +kernel
theorem dL_law_464 : decode cL_law 464 = .ok (.iload_n 3, 1) := by decide +kernel
theorem dL_law_465 : decode cL_law 465 = .ok (.iconst 2, 1) := by decide +kernel
theorem dL_law_466 : decode cL_law 466 = .ok (.iadd, 1) := by decide +kernel
theorem dL_law_467 : decode cL_law 467 = .ok (.iaload, 1) := by decide +kernel
theorem dL_law_468 : decode cL_law 468 = .ok (.invokevirtual 45, 3) := by decide +kernel
theorem dL_law_471 : decode cL_law 471 = .ok (.pop, 1) := by decide +kernel
theorem dL_law_472 : decode cL_law 472 = .ok (.goto 947, 3) := by decide +kernel
theorem dL_law_475 : decode cL_law 475 = .ok (.aload_n 1, 1) := by decide +kernel
theorem dL_law_476 : decode cL_law 476 = .ok (.aload_n 0, 1) := by decide +kernel
theorem dL_law_477 : decode cL_law 477 = .ok (.iload_n 3, 1) := by decide +kernel
theorem dL_law_478 : decode cL_law 478 = .ok (.iconst 1, 1) := by decide +kernel
theorem dL_law_479 : decode cL_law 479 = .ok (.iadd, 1) := by decide +kernel
theorem dL_law_480 : decode cL_law 480 = .ok (.iaload, 1) := by decide +kernel
theorem dL_law_481 : decode cL_law 481 = .ok (.aload_n 0, 1) := by decide +kernel
theorem dL_law_482 : decode cL_law 482 = .ok (.iload_n 3, 1) := by decide +kernel
theorem dL_law_483 : decode cL_law 483 = .ok (.iconst 2, 1) := by decide +kernel
theorem dL_law_484 : decode cL_law 484 = .ok (.iadd, 1) := by decide +kernel
theorem dL_law_485 : decode cL_law 485 = .ok (.iaload, 1) := by decide +kernel
theorem dL_law_486 : decode cL_law 486 = .ok (.aload_n 0, 1) := by decide +kernel
theorem dL_law_487 : decode cL_law 487 = .ok (.iload_n 3, 1) := by decide +kernel
theorem dL_law_488 : decode cL_law 488 = .ok (.iconst 3, 1) := by decide +kernel
theorem dL_law_489 : decode cL_law 489 = .ok (.iadd, 1) := by decide +kernel
theorem dL_law_490 : decode cL_law 490 = .ok (.iaload, 1) := by decide +kernel
theorem dL_law_491 : decode cL_law 491 = .ok (.invokevirtual 46, 3) := by decide +kernel
theorem dL_law_494 : decode cL_law 494 = .ok (.pop, 1) := by decide +kernel
theorem dL_law_495 : decode cL_law 495 = .ok (.aload_n 2, 1) := by decide +kernel
theorem dL_law_496 : decode cL_law 496 = .ok (.aload_n 0, 1) := by decide +kernel
theorem dL_law_497 : decode cL_law 497 = .ok (.iload_n 3, 1) := by decide +kernel
theorem dL_law_498 : decode cL_law 498 = .ok (.iconst 1, 1) := by decide +kernel
theorem dL_law_499 : decode cL_law 499 = .ok (.iadd, 1) := by decide +kernel
theorem dL_law_500 : decode cL_law 500 = .ok (.iaload, 1) := by decide +kernel
theorem dL_law_501 : decode cL_law 501 = .ok (.aload_n 0, 1) := by decide +kernel
theorem dL_law_502 : decode cL_law 502 = .ok (.iload_n 3, 1) := by decide +kernel
theorem dL_law_503 : decode cL_law 503 = .ok (.iconst 2, 1) := by decide +kernel
theorem dL_law_504 : decode cL_law 504 = .ok (.iadd, 1) := by decide +kernel
theorem dL_law_505 : decode cL_law 505 = .ok (.iaload, 1) := by decide +kernel
theorem dL_law_506 : decode cL_law 506 = .ok (.aload_n 0, 1) := by decide +kernel
theorem dL_law_507 : decode cL_law 507 = .ok (.iload_n 3, 1) := by decide +kernel
theorem dL_law_508 : decode cL_law 508 = .ok (.iconst 3, 1) := by decide +kernel
theorem dL_law_509 : decode cL_law 509 = .ok (.iadd, 1) := by decide +kernel
theorem dL_law_510 : decode cL_law 510 = .ok (.iaload, 1) := by decide +kernel
theorem dL_law_511 : decode cL_law 511 = .ok (.invokevirtual 49, 3) := by decide +kernel
theorem dL_law_514 : decode cL_law 514 = .ok (.pop, 1) := by decide +kernel
theorem dL_law_515 : decode cL_law 515 = .ok (.goto 904, 3) := by decide +kernel
theorem dL_law_518 : decode cL_law 518 = .ok (.aload_n 1, 1) := by decide +kernel
theorem dL_law_519 : decode cL_law 519 = .ok (.aload_n 0, 1) := by decide +kernel
theorem dL_law_520 : decode cL_law 520 = .ok (.iload_n 3, 1) := by decide +kernel
theorem dL_law_521 : decode cL_law 521 = .ok (.iconst 1, 1) := by decide +kernel
theorem dL_law_522 : decode cL_law 522 = .ok (.iadd, 1) := by decide +kernel
theorem dL_law_523 : decode cL_law 523 = .ok (.iaload, 1) := by decide +kernel
theorem dL_law_524 : decode cL_law 524 = .ok (.aload_n 0, 1) := by decide +kernel
theorem dL_law_525 : decode cL_law 525 = .ok (.iload_n 3, 1) := by decide +kernel
theorem dL_law_526 : decode cL_law 526 = .ok (.iconst 2, 1) := by decide +kernel
theorem dL_law_527 : decode cL_law 527 = .ok (.iadd, 1) := by decide +kernel
theorem dL_law_528 : decode cL_law 528 = .ok (.iaload, 1) := by decide +kernel
theorem dL_law_529 : decode cL_law 529 = .ok (.aload_n 0, 1) := by decide +kernel
theorem dL_law_530 : decode cL_law 530 = .ok (.iload_n 3, 1) := by decide +kernel
theorem dL_law_531 : decode cL_law 531 = .ok (.iconst 3, 1) := by decide +kernel
theorem dL_law_532 : decode cL_law 532 = .ok (.iadd, 1) := by decide +kernel
theorem dL_law_533 : decode cL_law 533 = .ok (.iaload, 1) := by decide +kernel
theorem dL_law_534 : decode cL_law 534 = .ok (.invokevirtual 50, 3) := by decide +kernel
theorem dL_law_537 : decode cL_law 537 = .ok (.pop, 1) := by decide +kernel
theorem dL_law_538 : decode cL_law 538 = .ok (.aload_n 2, 1) := by decide +kernel
theorem dL_law_539 : decode cL_law 539 = .ok (.aload_n 0, 1) := by decide +kernel
theorem dL_law_540 : decode cL_law 540 = .ok (.iload_n 3, 1) := by decide +kernel
theorem dL_law_541 : decode cL_law 541 = .ok (.iconst 1, 1) := by decide +kernel
theorem dL_law_542 : decode cL_law 542 = .ok (.iadd, 1) := by decide +kernel
theorem dL_law_543 : decode cL_law 543 = .ok (.iaload, 1) := by decide +kernel
theorem dL_law_544 : decode cL_law 544 = .ok (.aload_n 0, 1) := by decide +kernel
theorem dL_law_545 : decode cL_law 545 = .ok (.iload_n 3, 1) := by decide +kernel
theorem dL_law_546 : decode cL_law 546 = .ok (.iconst 2, 1) := by decide +kernel
theorem dL_law_547 : decode cL_law 547 = .ok (.iadd, 1) := by decide +kernel
theorem dL_law_548 : decode cL_law 548 = .ok (.iaload, 1) := by decide +kernel
theorem dL_law_549 : decode cL_law 549 = .ok (.aload_n 0, 1) := by decide +kernel
theorem dL_law_550 : decode cL_law 550 = .ok (.iload_n 3, 1) := by decide +kernel
theorem dL_law_551 : decode cL_law 551 = .ok (.iconst 3, 1) := by decide +kernel
theorem dL_law_552 : decode cL_law 552 = .ok (.iadd, 1) := by decide +kernel
theorem dL_law_553 : decode cL_law 553 = .ok (.iaload, 1) := by decide +kernel
theorem dL_law_554 : decode cL_law 554 = .ok (.invokevirtual 53, 3) := by decide +kernel
theorem dL_law_557 : decode cL_law 557 = .ok (.pop, 1) := by decide +kernel
theorem dL_law_558 : decode cL_law 558 = .ok (.goto 861, 3) := by decide +kernel
theorem dL_law_561 : decode cL_law 561 = .ok (.aload_n 1, 1) := by decide +kernel
theorem dL_law_562 : decode cL_law 562 = .ok (.aload_n 0, 1) := by decide +kernel
theorem dL_law_563 : decode cL_law 563 = .ok (.iload_n 3, 1) := by decide +kernel
theorem dL_law_564 : decode cL_law 564 = .ok (.iconst 1, 1) := by decide +kernel
theorem dL_law_565 : decode cL_law 565 = .ok (.iadd, 1) := by decide +kernel
theorem dL_law_566 : decode cL_law 566 = .ok (.iaload, 1) := by decide +kernel
theorem dL_law_567 : decode cL_law 567 = .ok (.aload_n 0, 1) := by decide +kernel
theorem dL_law_568 : decode cL_law 568 = .ok (.iload_n 3, 1) := by decide +kernel
theorem dL_law_569 : decode cL_law 569 = .ok (.iconst 2, 1) := by decide +kernel
theorem dL_law_570 : decode cL_law 570 = .ok (.iadd, 1) := by decide +kernel
theorem dL_law_571 : decode cL_law 571 = .ok (.iaload, 1) := by decide +kernel
theorem dL_law_572 : decode cL_law 572 = .ok (.aload_n 0, 1) := by decide +kernel
theorem dL_law_573 : decode cL_law 573 = .ok (.iload_n 3, 1) := by decide +kernel
theorem dL_law_574 : decode cL_law 574 = .ok (.iconst 3, 1) := by decide +kernel
theorem dL_law_575 : decode cL_law 575 = .ok (.iadd, 1) := by decide +kernel
theorem dL_law_576 : decode cL_law 576 = .ok (.iaload, 1) := by decide +kernel
theorem dL_law_577 : decode cL_law 577 = .ok (.aload_n 0, 1) := by decide +kernel
theorem dL_law_578 : decode cL_law 578 = .ok (.iload_n 3, 1) := by decide +kernel
theorem dL_law_579 : decode cL_law 579 = .ok (.iconst 4, 1) := by decide +kernel
theorem dL_law_580 : decode cL_law 580 = .ok (.iadd, 1) := by decide +kernel
theorem dL_law_581 : decode cL_law 581 = .ok (.iaload, 1) := by decide +kernel
theorem dL_law_582 : decode cL_law 582 = .ok (.invokevirtual 54, 3) := by decide +kernel
theorem dL_law_585 : decode cL_law 585 = .ok (.pop, 1) := by decide +kernel
theorem dL_law_586 : decode cL_law 586 = .ok (.aload_n 2, 1) := by decide +kernel
theorem dL_law_587 : decode cL_law 587 = .ok (.aload_n 0, 1) := by decide +kernel
theorem dL_law_588 : decode cL_law 588 = .ok (.iload_n 3, 1) := by decide +kernel
theorem dL_law_589 : decode cL_law 589 = .ok (.iconst 1, 1) := by decide +kernel
theorem dL_law_590 : decode cL_law 590 = .ok (.iadd, 1) := by decide +kernel
theorem dL_law_591 : decode cL_law 591 = .ok (.iaload, 1) := by decide +kernel
theorem dL_law_592 : decode cL_law 592 = .ok (.aload_n 0, 1) := by decide +kernel
theorem dL_law_593 : decode cL_law 593 = .ok (.iload_n 3, 1) := by decide +kernel
theorem dL_law_594 : decode cL_law 594 = .ok (.iconst 2, 1) := by decide +kernel
theorem dL_law_595 : decode cL_law 595 = .ok (.iadd, 1) := by decide +kernel
theorem dL_law_596 : decode cL_law 596 = .ok (.iaload, 1) := by decide +kernel
theorem dL_law_597 : decode cL_law 597 = .ok (.aload_n 0, 1) := by decide +kernel
theorem dL_law_598 : decode cL_law 598 = .ok (.iload_n 3, 1) := by decide +kernel
theorem dL_law_599 : decode cL_law 599 = .ok (.iconst 3, 1) := by decide +kernel
theorem dL_law_600 : decode cL_law 600 = .ok (.iadd, 1) := by decide +kernel
theorem dL_law_601 : decode cL_law 601 = .ok (.iaload, 1) := by decide +kernel
theorem dL_law_602 : decode cL_law 602 = .ok (.aload_n 0, 1) := by decide +kernel
theorem dL_law_603 : decode cL_law 603 = .ok (.iload_n 3, 1) := by decide +kernel
theorem dL_law_604 : decode cL_law 604 = .ok (.iconst 4, 1) := by decide +kernel
theorem dL_law_605 : decode cL_law 605 = .ok (.iadd, 1) := by decide +kernel
theorem dL_law_606 : decode cL_law 606 = .ok (.iaload, 1) := by decide +kernel
theorem dL_law_607 : decode cL_law 607 = .ok (.invokevirtual 57, 3) := by decide +kernel
theorem dL_law_610 : decode cL_law 610 = .ok (.pop, 1) := by decide +kernel
theorem dL_law_611 : decode cL_law 611 = .ok (.goto 808, 3) := by decide +kernel
theorem dL_law_614 : decode cL_law 614 = .ok (.aload_n 1, 1) := by decide +kernel
theorem dL_law_615 : decode cL_law 615 = .ok (.aload_n 0, 1) := by decide +kernel
theorem dL_law_616 : decode cL_law 616 = .ok (.iload_n 3, 1) := by decide +kernel
theorem dL_law_617 : decode cL_law 617 = .ok (.iconst 1, 1) := by decide +kernel
theorem dL_law_618 : decode cL_law 618 = .ok (.iadd, 1) := by decide +kernel
theorem dL_law_619 : decode cL_law 619 = .ok (.iaload, 1) := by decide +kernel
theorem dL_law_620 : decode cL_law 620 = .ok (.aload_n 0, 1) := by decide +kernel
theorem dL_law_621 : decode cL_law 621 = .ok (.iload_n 3, 1) := by decide +kernel
theorem dL_law_622 : decode cL_law 622 = .ok (.iconst 2, 1) := by decide +kernel
theorem dL_law_623 : decode cL_law 623 = .ok (.iadd, 1) := by decide +kernel
theorem dL_law_624 : decode cL_law 624 = .ok (.iaload, 1) := by decide +kernel
theorem dL_law_625 : decode cL_law 625 = .ok (.invokevirtual 58, 3) := by decide +kernel
theorem dL_law_628 : decode cL_law 628 = .ok (.pop, 1) := by decide +kernel
theorem dL_law_629 : decode cL_law 629 = .ok (.aload_n 2, 1) := by decide +kernel
theorem dL_law_630 : decode cL_law 630 = .ok (.aload_n 0, 1) := by decide +kernel
theorem dL_law_631 : decode cL_law 631 = .ok (.iload_n 3, 1) := by decide +kernel
theorem dL_law_632 : decode cL_law 632 = .ok (.iconst 1, 1) := by decide +kernel
theorem dL_law_633 : decode cL_law 633 = .ok (.iadd, 1) := by decide +kernel
theorem dL_law_634 : decode cL_law 634 = .ok (.iaload, 1) := by decide +kernel
theorem dL_law_635 : decode cL_law 635 = .ok (.aload_n 0, 1) := by decide +kernel
theorem dL_law_636 : decode cL_law 636 = .ok (.iload_n 3, 1) := by decide +kernel
theorem dL_law_637 : decode cL_law 637 = .ok (.iconst 2, 1) := by decide +kernel
theorem dL_law_638 : decode cL_law 638 = .ok (.iadd, 1) := by decide +kernel
theorem dL_law_639 : decode cL_law 639 = .ok (.iaload, 1) := by decide +kernel
theorem dL_law_640 : decode cL_law 640 = .ok (.invokevirtual 61, 3) := by decide +kernel
theorem dL_law_643 : decode cL_law 643 = .ok (.pop, 1) := by decide +kernel
theorem dL_law_644 : decode cL_law 644 = .ok (.goto 775, 3) := by decide +kernel
theorem dL_law_647 : decode cL_law 647 = .ok (.aload_n 1, 1) := by decide +kernel
theorem dL_law_648 : decode cL_law 648 = .ok (.aload_n 0, 1) := by decide +kernel
theorem dL_law_649 : decode cL_law 649 = .ok (.iload_n 3, 1) := by decide +kernel
theorem dL_law_650 : decode cL_law 650 = .ok (.iconst 1, 1) := by decide +kernel
theorem dL_law_651 : decode cL_law 651 = .ok (.iadd, 1) := by decide +kernel
theorem dL_law_652 : decode cL_law 652 = .ok (.iaload, 1) := by decide +kernel
theorem dL_law_653 : decode cL_law 653 = .ok (.aload_n 0, 1) := by decide +kernel
theorem dL_law_654 : decode cL_law 654 = .ok (.iload_n 3, 1) := by decide +kernel
theorem dL_law_655 : decode cL_law 655 = .ok (.iconst 2, 1) := by decide +kernel
theorem dL_law_656 : decode cL_law 656 = .ok (.iadd, 1) := by decide +kernel
theorem dL_law_657 : decode cL_law 657 = .ok (.iaload, 1) := by decide +kernel
theorem dL_law_658 : decode cL_law 658 = .ok (.aload_n 0, 1) := by decide +kernel
theorem dL_law_659 : decode cL_law 659 = .ok (.iload_n 3, 1) := by decide +kernel
theorem dL_law_660 : decode cL_law 660 = .ok (.iconst 3, 1) := by decide +kernel
theorem dL_law_661 : decode cL_law 661 = .ok (.iadd, 1) := by decide +kernel
theorem dL_law_662 : decode cL_law 662 = .ok (.iaload, 1) := by decide +kernel
theorem dL_law_663 : decode cL_law 663 = .ok (.invokevirtual 62, 3) := by decide +kernel
theorem dL_law_666 : decode cL_law 666 = .ok (.pop, 1) := by decide +kernel
theorem dL_law_667 : decode cL_law 667 = .ok (.aload_n 2, 1) := by decide +kernel
theorem dL_law_668 : decode cL_law 668 = .ok (.aload_n 0, 1) := by decide +kernel
theorem dL_law_669 : decode cL_law 669 = .ok (.iload_n 3, 1) := by decide +kernel
theorem dL_law_670 : decode cL_law 670 = .ok (.iconst 1, 1) := by decide +kernel
theorem dL_law_671 : decode cL_law 671 = .ok (.iadd, 1) := by decide +kernel
theorem dL_law_672 : decode cL_law 672 = .ok (.iaload, 1) := by decide +kernel
theorem dL_law_673 : decode cL_law 673 = .ok (.aload_n 0, 1) := by decide +kernel
theorem dL_law_674 : decode cL_law 674 = .ok (.iload_n 3, 1) := by decide +kernel
theorem dL_law_675 : decode cL_law 675 = .ok (.iconst 2, 1) := by decide +kernel
theorem dL_law_676 : decode cL_law 676 = .ok (.iadd, 1) := by decide +kernel
theorem dL_law_677 : decode cL_law 677 = .ok (.iaload, 1) := by decide +kernel
theorem dL_law_678 : decode cL_law 678 = .ok (.aload_n 0, 1) := by decide +kernel
theorem dL_law_679 : decode cL_law 679 = .ok (.iload_n 3, 1) := by decide +kernel
theorem dL_law_680 : decode cL_law 680 = .ok (.iconst 3, 1) := by decide +kernel
theorem dL_law_681 : decode cL_law 681 = .ok (.iadd, 1) := by decide +kernel
theorem dL_law_682 : decode cL_law 682 = .ok (.iaload, 1) := by decide +kernel
theorem dL_law_683 : decode cL_law 683 = .ok (.invokevirtual 65, 3) := by decide +kernel
theorem dL_law_686 : decode cL_law 686 = .ok (.pop, 1) := by decide +kernel
theorem dL_law_687 : decode cL_law 687 = .ok (.goto 732, 3) := by decide +kernel
theorem dL_law_690 : decode cL_law 690 = .ok (.aload_n 1, 1) := by decide +kernel
theorem dL_law_691 : decode cL_law 691 = .ok (.aload_n 0, 1) := by decide +kernel
theorem dL_law_692 : decode cL_law 692 = .ok (.iload_n 3, 1) := by decide +kernel
theorem dL_law_693 : decode cL_law 693 = .ok (.iconst 1, 1) := by decide +kernel
theorem dL_law_694 : decode cL_law 694 = .ok (.iadd, 1) := by decide +kernel
theorem dL_law_695 : decode cL_law 695 = .ok (.iaload, 1) := by decide +kernel
theorem dL_law_696 : decode cL_law 696 = .ok (.aload_n 0, 1) := by decide +kernel
theorem dL_law_697 : decode cL_law 697 = .ok (.iload_n 3, 1) := by decide +kernel
theorem dL_law_698 : decode cL_law 698 = .ok (.iconst 2, 1) := by decide +kernel
theorem dL_law_699 : decode cL_law 699 = .ok (.iadd, 1) := by decide +kernel
theorem dL_law_700 : decode cL_law 700 = .ok (.iaload, 1) := by decide +kernel
theorem dL_law_701 : decode cL_law 701 = .ok (.aload_n 0, 1) := by decide +kernel
theorem dL_law_702 : decode cL_law 702 = .ok (.iload_n 3, 1) := by decide +kernel
theorem dL_law_703 : decode cL_law 703 = .ok (.iconst 3, 1) := by decide +kernel
theorem dL_law_704 : decode cL_law 704 = .ok (.iadd, 1) := by decide +kernel
theorem dL_law_705 : decode cL_law 705 = .ok (.iaload, 1) := by decide +kernel
theorem dL_law_706 : decode cL_law 706 = .ok (.invokevirtual 66, 3) := by decide +kernel
theorem dL_law_709 : decode cL_law 709 = .ok (.pop, 1) := by decide +kernel
theorem dL_law_710 : decode cL_law 710 = .ok (.aload_n 2, 1) := by decide +kernel
theorem dL_law_711 : decode cL_law 711 = .ok (.aload_n 0, 1) := by decide +kernel
theorem dL_law_712 : decode cL_law 712 = .ok (.iload_n 3, 1) := by decide +kernel
theorem dL_law_713 : decode cL_law 713 = .ok (.iconst 1, 1) := by decide +kernel
theorem dL_law_714 : decode cL_law 714 = .ok (.iadd, 1) := by decide +kernel
theorem dL_law_715 : decode cL_law 715 = .ok (.iaload, 1) := by decide +kernel
theorem dL_law_716 : decode cL_law 716 = .ok (.aload_n 0, 1) := by decide +kernel
theorem dL_law_717 : decode cL_law 717 = .ok (.iload_n 3, 1) := by decide +kernel
theorem dL_law_718 : decode cL_law 718 = .ok (.iconst 2, 1) := by decide +kernel
theorem dL_law_719 : decode cL_law 719 = .ok (.iadd, 1) := by decide +kernel
theorem dL_law_720 : decode cL_law 720 = .ok (.iaload, 1) := by decide +kernel
theorem dL_law_721 : decode cL_law 721 = .ok (.aload_n 0, 1) := by decide +kernel
theorem dL_law_722 : decode cL_law 722 = .ok (.iload_n 3, 1) := by decide +kernel
theorem dL_law_723 : decode cL_law 723 = .ok (.iconst 3, 1) := by decide +kernel
theorem dL_law_724 : decode cL_law 724 = .ok (.iadd, 1) := by decide +kernel
theorem dL_law_725 : decode cL_law 725 = .ok (.iaload, 1) := by decide +kernel
theorem dL_law_726 : decode cL_law 726 = .ok (.invokevirtual 69, 3) := by decide +kernel
theorem dL_law_729 : decode cL_law 729 = .ok (.pop, 1) := by decide +kernel
theorem dL_law_730 : decode cL_law 730 = .ok (.goto 689, 3) := by decide +kernel
theorem dL_law_733 : decode cL_law 733 = .ok (.aload_n 1, 1) := by decide +kernel
theorem dL_law_734 : decode cL_law 734 = .ok (.aload_n 0, 1) := by decide +kernel
theorem dL_law_735 : decode cL_law 735 = .ok (.iload_n 3, 1) := by decide +kernel
theorem dL_law_736 : decode cL_law 736 = .ok (.iconst 1, 1) := by decide +kernel
theorem dL_law_737 : decode cL_law 737 = .ok (.iadd, 1) := by decide +kernel
theorem dL_law_738 : decode cL_law 738 = .ok (.iaload, 1) := by decide +kernel
theorem dL_law_739 : decode cL_law 739 = .ok (.aload_n 0, 1) := by decide +kernel
theorem dL_law_740 : decode cL_law 740 = .ok (.iload_n 3, 1) := by decide +kernel
theorem dL_law_741 : decode cL_law 741 = .ok (.iconst 2, 1) := by decide +kernel
theorem dL_law_742 : decode cL_law 742 = .ok (.iadd, 1) := by decide +kernel
theorem dL_law_743 : decode cL_law 743 = .ok (.iaload, 1) := by decide +kernel
theorem dL_law_744 : decode cL_law 744 = .ok (.aload_n 0, 1) := by decide +kernel
theorem dL_law_745 : decode cL_law 745 = .ok (.iload_n 3, 1) := by decide +kernel
theorem dL_law_746 : decode cL_law 746 = .ok (.iconst 3, 1) := by decide +kernel
theorem dL_law_747 : decode cL_law 747 = .ok (.iadd, 1) := by decide +kernel
theorem dL_law_748 : decode cL_law 748 = .ok (.iaload, 1) := by decide +kernel
theorem dL_law_749 : decode cL_law 749 = .ok (.invokevirtual 70, 3) := by decide +kernel
theorem dL_law_752 : decode cL_law 752 = .ok (.pop, 1) := by decide +kernel
theorem dL_law_753 : decode cL_law 753 = .ok (.aload_n 2, 1) := by decide +kernel
theorem dL_law_754 : decode cL_law 754 = .ok (.aload_n 0, 1) := by decide +kernel
theorem dL_law_755 : decode cL_law 755 = .ok (.iload_n 3, 1) := by decide +kernel
theorem dL_law_756 : decode cL_law 756 = .ok (.iconst 1, 1) := by decide +kernel
theorem dL_law_757 : decode cL_law 757 = .ok (.iadd, 1) := by decide +kernel
theorem dL_law_758 : decode cL_law 758 = .ok (.iaload, 1) := by decide +kernel
theorem dL_law_759 : decode cL_law 759 = .ok (.aload_n 0, 1) := by decide +kernel
theorem dL_law_760 : decode cL_law 760 = .ok (.iload_n 3, 1) := by decide +kernel
theorem dL_law_761 : decode cL_law 761 = .ok (.iconst 2, 1) := by decide +kernel
theorem dL_law_762 : decode cL_law 762 = .ok (.iadd, 1) := by decide +kernel
theorem dL_law_763 : decode cL_law 763 = .ok (.iaload, 1) := by decide +kernel
theorem dL_law_764 : decode cL_law 764 = .ok (.aload_n 0, 1) := by decide +kernel
theorem dL_law_765 : decode cL_law 765 = .ok (.iload_n 3, 1) := by decide +kernel
theorem dL_law_766 : decode cL_law 766 = .ok (.iconst 3, 1) := by decide +kernel
theorem dL_law_767 : decode cL_law 767 = .ok (.iadd, 1) := by decide +kernel
theorem dL_law_768 : decode cL_law 768 = .ok (.iaload, 1) := by decide +kernel
theorem dL_law_769 : decode cL_law 769 = .ok (.invokevirtual 73, 3) := by decide +kernel
theorem dL_law_772 : decode cL_law 772 = .ok (.pop, 1) := by decide +kernel
theorem dL_law_773 : decode cL_law 773 = .ok (.goto 646, 3) := by decide +kernel
theorem dL_law_776 : decode cL_law 776 = .ok (.aload_n 1, 1) := by decide +kernel
theorem dL_law_777 : decode cL_law 777 = .ok (.aload_n 0, 1) := by decide +kernel
theorem dL_law_778 : decode cL_law 778 = .ok (.iload_n 3, 1) := by decide +kernel
theorem dL_law_779 : decode cL_law 779 = .ok (.iconst 1, 1) := by decide +kernel
theorem dL_law_780 : decode cL_law 780 = .ok (.iadd, 1) := by decide +kernel
theorem dL_law_781 : decode cL_law 781 = .ok (.iaload, 1) := by decide +kernel
theorem dL_law_782 : decode cL_law 782 = .ok (.invokevirtual 74, 3) := by decide +kernel
theorem dL_law_785 : decode cL_law 785 = .ok (.pop, 1) := by decide +kernel
theorem dL_law_786 : decode cL_law 786 = .ok (.aload_n 2, 1) := by decide +kernel
theorem dL_law_787 : decode cL_law 787 = .ok (.aload_n 0, 1) := by decide +kernel
theorem dL_law_788 : decode cL_law 788 = .ok (.iload_n 3, 1) := by decide +kernel
theorem dL_law_789 : decode cL_law 789 = .ok (.iconst 1, 1) := by decide +kernel
theorem dL_law_790 : decode cL_law 790 = .ok (.iadd, 1) := by decide +kernel
theorem dL_law_791 : decode cL_law 791 = .ok (.iaload, 1) := by decide +kernel
theorem dL_law_792 : decode cL_law 792 = .ok (.invokevirtual 77, 3) := by decide +kernel
theorem dL_law_795 : decode cL_law 795 = .ok (.pop, 1) := by decide +kernel
theorem dL_law_796 : decode cL_law 796 = .ok (.goto 623, 3) := by decide +kernel
theorem dL_law_799 : decode cL_law 799 = .ok (.aload_n 1, 1) := by decide +kernel
theorem dL_law_800 : decode cL_law 800 = .ok (.aload_n 0, 1) := by decide +kernel
theorem dL_law_801 : decode cL_law 801 = .ok (.iload_n 3, 1) := by decide +kernel
theorem dL_law_802 : decode cL_law 802 = .ok (.iconst 1, 1) := by decide +kernel
theorem dL_law_803 : decode cL_law 803 = .ok (.iadd, 1) := by decide +kernel
theorem dL_law_804 : decode cL_law 804 = .ok (.iaload, 1) := by decide +kernel
theorem dL_law_805 : decode cL_law 805 = .ok (.aload_n 0, 1) := by decide +kernel
theorem dL_law_806 : decode cL_law 806 = .ok (.iload_n 3, 1) := by decide +kernel
theorem dL_law_807 : decode cL_law 807 = .ok (.iconst 2, 1) := by decide +kernel
theorem dL_law_808 : decode cL_law 808 = .ok (.iadd, 1) := by decide +kernel
theorem dL_law_809 : decode cL_law 809 = .ok (.iaload, 1) := by decide +kernel
theorem dL_law_810 : decode cL_law 810 = .ok (.invokevirtual 78, 3) := by decide +kernel
theorem dL_law_813 : decode cL_law 813 = .ok (.pop, 1) := by decide +kernel
theorem dL_law_814 : decode cL_law 814 = .ok (.aload_n 2, 1) := by decide +kernel
theorem dL_law_815 : decode cL_law 815 = .ok (.aload_n 0, 1) := by decide +kernel
theorem dL_law_816 : decode cL_law 816 = .ok (.iload_n 3, 1) := by decide +kernel
theorem dL_law_817 : decode cL_law 817 = .ok (.iconst 1, 1) := by decide +kernel
theorem dL_law_818 : decode cL_law 818 = .ok (.iadd, 1) := by decide +kernel
theorem dL_law_819 : decode cL_law 819 = .ok (.iaload, 1) := by decide +kernel
theorem dL_law_820 : decode cL_law 820 = .ok (.aload_n 0, 1) := by decide +kernel
theorem dL_law_821 : decode cL_law 821 = .ok (.iload_n 3, 1) := by decide +kernel
theorem dL_law_822 : decode cL_law 822 = .ok (.iconst 2, 1) := by decide +kernel
theorem dL_law_823 : decode cL_law 823 = .ok (.iadd, 1) := by decide +kernel
theorem dL_law_824 : decode cL_law 824 = .ok (.iaload, 1) := by decide +kernel
theorem dL_law_825 : decode cL_law 825 = .ok (.invokevirtual 81, 3) := by decide +kernel
theorem dL_law_828 : decode cL_law 828 = .ok (.pop, 1) := by decide +kernel
theorem dL_law_829 : decode cL_law 829 = .ok (.goto 590, 3) := by decide +kernel
theorem dL_law_832 : decode cL_law 832 = .ok (.aload_n 1, 1) := by decide +kernel
theorem dL_law_833 : decode cL_law 833 = .ok (.aload_n 0, 1) := by decide +kernel
theorem dL_law_834 : decode cL_law 834 = .ok (.iload_n 3, 1) := by decide +kernel
theorem dL_law_835 : decode cL_law 835 = .ok (.iconst 1, 1) := by decide +kernel
theorem dL_law_836 : decode cL_law 836 = .ok (.iadd, 1) := by decide +kernel
theorem dL_law_837 : decode cL_law 837 = .ok (.iaload, 1) := by decide +kernel
theorem dL_law_838 : decode cL_law 838 = .ok (.aload_n 0, 1) := by decide +kernel
theorem dL_law_839 : decode cL_law 839 = .ok (.iload_n 3, 1) := by decide +kernel
theorem dL_law_840 : decode cL_law 840 = .ok (.iconst 2, 1) := by decide +kernel
theorem dL_law_841 : decode cL_law 841 = .ok (.iadd, 1) := by decide +kernel
theorem dL_law_842 : decode cL_law 842 = .ok (.iaload, 1) := by decide +kernel
theorem dL_law_843 : decode cL_law 843 = .ok (.aload_n 0, 1) := by decide +kernel
theorem dL_law_844 : decode cL_law 844 = .ok (.iload_n 3, 1) := by decide +kernel
theorem dL_law_845 : decode cL_law 845 = .ok (.iconst 3, 1) := by decide +kernel
theorem dL_law_846 : decode cL_law 846 = .ok (.iadd, 1) := by decide +kernel
theorem dL_law_847 : decode cL_law 847 = .ok (.iaload, 1) := by decide +kernel
theorem dL_law_848 : decode cL_law 848 = .ok (.invokevirtual 82, 3) := by decide +kernel
theorem dL_law_851 : decode cL_law 851 = .ok (.pop, 1) := by decide +kernel
theorem dL_law_852 : decode cL_law 852 = .ok (.aload_n 2, 1) := by decide +kernel
theorem dL_law_853 : decode cL_law 853 = .ok (.aload_n 0, 1) := by decide +kernel
theorem dL_law_854 : decode cL_law 854 = .ok (.iload_n 3, 1) := by decide +kernel
theorem dL_law_855 : decode cL_law 855 = .ok (.iconst 1, 1) := by decide +kernel
theorem dL_law_856 : decode cL_law 856 = .ok (.iadd, 1) := by decide +kernel
theorem dL_law_857 : decode cL_law 857 = .ok (.iaload, 1) := by decide +kernel
theorem dL_law_858 : decode cL_law 858 = .ok (.aload_n 0, 1) := by decide +kernel
theorem dL_law_859 : decode cL_law 859 = .ok (.iload_n 3, 1) := by decide +kernel
theorem dL_law_860 : decode cL_law 860 = .ok (.iconst 2, 1) := by decide +kernel
theorem dL_law_861 : decode cL_law 861 = .ok (.iadd, 1) := by decide +kernel
theorem dL_law_862 : decode cL_law 862 = .ok (.iaload, 1) := by decide +kernel
theorem dL_law_863 : decode cL_law 863 = .ok (.aload_n 0, 1) := by decide +kernel
theorem dL_law_864 : decode cL_law 864 = .ok (.iload_n 3, 1) := by decide +kernel
theorem dL_law_865 : decode cL_law 865 = .ok (.iconst 3, 1) := by decide +kernel
theorem dL_law_866 : decode cL_law 866 = .ok (.iadd, 1) := by decide +kernel
theorem dL_law_867 : decode cL_law 867 = .ok (.iaload, 1) := by decide +kernel
theorem dL_law_868 : decode cL_law 868 = .ok (.invokevirtual 85, 3) := by decide +kernel
theorem dL_law_871 : decode cL_law 871 = .ok (.pop, 1) := by decide +kernel
theorem dL_law_872 : decode cL_law 872 = .ok (.goto 547, 3) := by decide +kernel
theorem dL_law_875 : decode cL_law 875 = .ok (.aload_n 1, 1) := by decide +kernel
theorem dL_law_876 : decode cL_law 876 = .ok (.aload_n 0, 1) := by decide +kernel
theorem dL_law_877 : decode cL_law 877 = .ok (.iload_n 3, 1) := by decide +kernel
theorem dL_law_878 : decode cL_law 878 = .ok (.iconst 1, 1) := by decide +kernel
theorem dL_law_879 : decode cL_law 879 = .ok (.iadd, 1) := by decide +kernel
theorem dL_law_880 : decode cL_law 880 = .ok (.iaload, 1) := by decide +kernel
theorem dL_law_881 : decode cL_law 881 = .ok (.aload_n 0, 1) := by decide +kernel
theorem dL_law_882 : decode cL_law 882 = .ok (.iload_n 3, 1) := by decide +kernel
theorem dL_law_883 : decode cL_law 883 = .ok (.iconst 2, 1) := by decide +kernel
theorem dL_law_884 : decode cL_law 884 = .ok (.iadd, 1) := by decide +kernel
theorem dL_law_885 : decode cL_law 885 = .ok (.iaload, 1) := by decide +kernel
theorem dL_law_886 : decode cL_law 886 = .ok (.invokevirtual 86, 3) := by decide +kernel
theorem dL_law_889 : decode cL_law 889 = .ok (.pop, 1) := by decide +kernel
theorem dL_law_890 : decode cL_law 890 = .ok (.aload_n 2, 1) := by decide +kernel
theorem dL_law_891 : decode cL_law 891 = .ok (.aload_n 0, 1) := by decide +kernel
theorem dL_law_892 : decode cL_law 892 = .ok (.iload_n 3, 1) := by decide +kernel
theorem dL_law_893 : decode cL_law 893 = .ok (.iconst 1, 1) := by decide +kernel
theorem dL_law_894 : decode cL_law 894 = .ok (.iadd, 1) := by decide +kernel
theorem dL_law_895 : decode cL_law 895 = .ok (.iaload, 1) := by decide +kernel
theorem dL_law_896 : decode cL_law 896 = .ok (.aload_n 0, 1) := by decide +kernel
theorem dL_law_897 : decode cL_law 897 = .ok (.iload_n 3, 1) := by decide +kernel
theorem dL_law_898 : decode cL_law 898 = .ok (.iconst 2, 1) := by decide +kernel
theorem dL_law_899 : decode cL_law 899 = .ok (.iadd, 1) := by decide +kernel
theorem dL_law_900 : decode cL_law 900 = .ok (.iaload, 1) := by decide +kernel
theorem dL_law_901 : decode cL_law 901 = .ok (.invokevirtual 89, 3) := by decide +kernel
theorem dL_law_904 : decode cL_law 904 = .ok (.pop, 1) := by decide +kernel
theorem dL_law_905 : decode cL_law 905 = .ok (.goto 514, 3) := by decide +kernel
theorem dL_law_908 : decode cL_law 908 = .ok (.aload_n 1, 1) := by decide +kernel
theorem dL_law_909 : decode cL_law 909 = .ok (.aload_n 0, 1) := by decide +kernel
theorem dL_law_910 : decode cL_law 910 = .ok (.iload_n 3, 1) := by decide +kernel
theorem dL_law_911 : decode cL_law 911 = .ok (.iconst 1, 1) := by decide +kernel
theorem dL_law_912 : decode cL_law 912 = .ok (.iadd, 1) := by decide +kernel
theorem dL_law_913 : decode cL_law 913 = .ok (.iaload, 1) := by decide +kernel
theorem dL_law_914 : decode cL_law 914 = .ok (.invokevirtual 90, 3) := by decide +kernel
theorem dL_law_917 : decode cL_law 917 = .ok (.pop, 1) := by decide +kernel
theorem dL_law_918 : decode cL_law 918 = .ok (.aload_n 2, 1) := by decide +kernel
theorem dL_law_919 : decode cL_law 919 = .ok (.aload_n 0, 1) := by decide +kernel
theorem dL_law_920 : decode cL_law 920 = .ok (.iload_n 3, 1) := by decide +kernel
theorem dL_law_921 : decode cL_law 921 = .ok (.iconst 1, 1) := by decide +kernel
theorem dL_law_922 : decode cL_law 922 = .ok (.iadd, 1) := by decide +kernel
theorem dL_law_923 : decode cL_law 923 = .ok (.iaload, 1) := by decide +kernel
theorem dL_law_924 : decode cL_law 924 = .ok (.invokevirtual 93, 3) := by decide +kernel
theorem dL_law_927 : decode cL_law 927 = .ok (.pop, 1) := by decide +kernel
theorem dL_law_928 : decode cL_law 928 = .ok (.goto 491, 3) := by decide +kernel
theorem dL_law_931 : decode cL_law 931 = .ok (.aload_n 1, 1) := by decide +kernel
theorem dL_law_932 : decode cL_law 932 = .ok (.aload_n 0, 1) := by decide +kernel
theorem dL_law_933 : decode cL_law 933 = .ok (.iload_n 3, 1) := by decide +kernel
theorem dL_law_934 : decode cL_law 934 = .ok (.iconst 1, 1) := by decide +kernel
theorem dL_law_935 : decode cL_law 935 = .ok (.iadd, 1) := by decide +kernel
theorem dL_law_936 : decode cL_law 936 = .ok (.iaload, 1) := by decide +kernel
theorem dL_law_937 : decode cL_law 937 = .ok (.aload_n 0, 1) := by decide +kernel
theorem dL_law_938 : decode cL_law 938 = .ok (.iload_n 3, 1) := by decide +kernel
theorem dL_law_939 : decode cL_law 939 = .ok (.iconst 2, 1) := by decide +kernel
theorem dL_law_940 : decode cL_law 940 = .ok (.iadd, 1) := by decide +kernel
theorem dL_law_941 : decode cL_law 941 = .ok (.iaload, 1) := by decide +kernel
theorem dL_law_942 : decode cL_law 942 = .ok (.aload_n 0, 1) := by decide +kernel
theorem dL_law_943 : decode cL_law 943 = .ok (.iload_n 3, 1) := by decide +kernel
theorem dL_law_944 : decode cL_law 944 = .ok (.iconst 3, 1) := by decide +kernel
theorem dL_law_945 : decode cL_law 945 = .ok (.iadd, 1) := by decide +kernel
theorem dL_law_946 : decode cL_law 946 = .ok (.iaload, 1) := by decide +kernel
theorem dL_law_947 : decode cL_law 947 = .ok (.invokevirtual 94, 3) := by decide +kernel
theorem dL_law_950 : decode cL_law 950 = .ok (.pop, 1) := by decide +kernel
theorem dL_law_951 : decode cL_law 951 = .ok (.aload_n 2, 1) := by decide +kernel
theorem dL_law_952 : decode cL_law 952 = .ok (.aload_n 0, 1) := by decide +kernel
theorem dL_law_953 : decode cL_law 953 = .ok (.iload_n 3, 1) := by decide +kernel
theorem dL_law_954 : decode cL_law 954 = .ok (.iconst 1, 1) := by decide +kernel
theorem dL_law_955 : decode cL_law 955 = .ok (.iadd, 1) := by decide +kernel
theorem dL_law_956 : decode cL_law 956 = .ok (.iaload, 1) := by decide +kernel
theorem dL_law_957 : decode cL_law 957 = .ok (.aload_n 0, 1) := by decide +kernel
theorem dL_law_958 : decode cL_law 958 = .ok (.iload_n 3, 1) := by decide +kernel
theorem dL_law_959 : decode cL_law 959 = .ok (.iconst 2, 1) := by decide +kernel
theorem dL_law_960 : decode cL_law 960 = .ok (.iadd, 1) := by decide +kernel
theorem dL_law_961 : decode cL_law 961 = .ok (.iaload, 1) := by decide +kernel
theorem dL_law_962 : decode cL_law 962 = .ok (.aload_n 0, 1) := by decide +kernel
theorem dL_law_963 : decode cL_law 963 = .ok (.iload_n 3, 1) := by decide +kernel
theorem dL_law_964 : decode cL_law 964 = .ok (.iconst 3, 1) := by decide +kernel
theorem dL_law_965 : decode cL_law 965 = .ok (.iadd, 1) := by decide +kernel
theorem dL_law_966 : decode cL_law 966 = .ok (.iaload, 1) := by decide +kernel
theorem dL_law_967 : decode cL_law 967 = .ok (.invokevirtual 97, 3) := by decide +kernel
theorem dL_law_970 : decode cL_law 970 = .ok (.pop, 1) := by decide +kernel
theorem dL_law_971 : decode cL_law 971 = .ok (.goto 448, 3) := by decide +kernel
theorem dL_law_974 : decode cL_law 974 = .ok (.aload_n 1, 1) := by decide +kernel
theorem dL_law_975 : decode cL_law 975 = .ok (.aload_n 0, 1) := by decide +kernel
theorem dL_law_976 : decode cL_law 976 = .ok (.iload_n 3, 1) := by decide +kernel
theorem dL_law_977 : decode cL_law 977 = .ok (.iconst 1, 1) := by decide +kernel
theorem dL_law_978 : decode cL_law 978 = .ok (.iadd, 1) := by decide +kernel
theorem dL_law_979 : decode cL_law 979 = .ok (.iaload, 1) := by decide +kernel
theorem dL_law_980 : decode cL_law 980 = .ok (.aload_n 0, 1) := by decide +kernel
theorem dL_law_981 : decode cL_law 981 = .ok (.iload_n 3, 1) := by decide +kernel
theorem dL_law_982 : decode cL_law 982 = .ok (.iconst 2, 1) := by decide +kernel
theorem dL_law_983 : decode cL_law 983 = .ok (.iadd, 1) := by decide +kernel
theorem dL_law_984 : decode cL_law 984 = .ok (.iaload, 1) := by decide +kernel
theorem dL_law_985 : decode cL_law 985 = .ok (.aload_n 0, 1) := by decide +kernel
theorem dL_law_986 : decode cL_law 986 = .ok (.iload_n 3, 1) := by decide +kernel
theorem dL_law_987 : decode cL_law 987 = .ok (.iconst 3, 1) := by decide +kernel
theorem dL_law_988 : decode cL_law 988 = .ok (.iadd, 1) := by decide +kernel
theorem dL_law_989 : decode cL_law 989 = .ok (.iaload, 1) := by decide +kernel
theorem dL_law_990 : decode cL_law 990 = .ok (.invokevirtual 98, 3) := by decide +kernel
theorem dL_law_993 : decode cL_law 993 = .ok (.pop, 1) := by decide +kernel
theorem dL_law_994 : decode cL_law 994 = .ok (.aload_n 2, 1) := by decide +kernel
theorem dL_law_995 : decode cL_law 995 = .ok (.aload_n 0, 1) := by decide +kernel
theorem dL_law_996 : decode cL_law 996 = .ok (.iload_n 3, 1) := by decide +kernel
theorem dL_law_997 : decode cL_law 997 = .ok (.iconst 1, 1) := by decide +kernel
theorem dL_law_998 : decode cL_law 998 = .ok (.iadd, 1) := by decide +kernel
theorem dL_law_999 : decode cL_law 999 = .ok (.iaload, 1) := by decide +kernel
theorem dL_law_1000 : decode cL_law 1000 = .ok (.aload_n 0, 1) := by decide +kernel
theorem dL_law_1001 : decode cL_law 1001 = .ok (.iload_n 3, 1) := by decide +kernel
theorem dL_law_1002 : decode cL_law 1002 = .ok (.iconst 2, 1) := by decide +kernel
theorem dL_law_1003 : decode cL_law 1003 = .ok (.iadd, 1) := by decide +kernel
theorem dL_law_1004 : decode cL_law 1004 = .ok (.iaload, 1) := by decide +kernel
theorem dL_law_1005 : decode cL_law 1005 = .ok (.aload_n 0, 1) := by decide +kernel
theorem dL_law_1006 : decode cL_law 1006 = .ok (.iload_n 3, 1) := by decide +kernel
theorem dL_law_1007 : decode cL_law 1007 = .ok (.iconst 3, 1) := by decide +kernel
theorem dL_law_1008 : decode cL_law 1008 = .ok (.iadd, 1) := by decide +kernel
theorem dL_law_1009 : decode cL_law 1009 = .ok (.iaload, 1) := by decide +kernel
theorem dL_law_1010 : decode cL_law 1010 = .ok (.invokevirtual 101, 3) := by decide +kernel
theorem dL_law_1013 : decode cL_law 1013 = .ok (.pop, 1) := by decide +kernel
theorem dL_law_1014 : decode cL_law 1014 = .ok (.goto 405, 3) := by decide +kernel
theorem dL_law_1017 : decode cL_law 1017 = .ok (.aload_n 1, 1) := by decide +kernel
theorem dL_law_1018 : decode cL_law 1018 = .ok (.aload_n 0, 1) := by decide +kernel
theorem dL_law_1019 : decode cL_law 1019 = .ok (.iload_n 3, 1) := by decide +kernel
theorem dL_law_1020 : decode cL_law 1020 = .ok (.iconst 1, 1) := by decide +kernel
theorem dL_law_1021 : decode cL_law 1021 = .ok (.iadd, 1) := by decide +kernel
theorem dL_law_1022 : decode cL_law 1022 = .ok (.iaload, 1) := by decide +kernel
theorem dL_law_1023 : decode cL_law 1023 = .ok (.aload_n 0, 1) := by decide +kernel
theorem dL_law_1024 : decode cL_law 1024 = .ok (.iload_n 3, 1) := by decide +kernel
theorem dL_law_1025 : decode cL_law 1025 = .ok (.iconst 2, 1) := by decide +kernel
theorem dL_law_1026 : decode cL_law 1026 = .ok (.iadd, 1) := by decide +kernel
theorem dL_law_1027 : decode cL_law 1027 = .ok (.iaload, 1) := by decide +kernel
theorem dL_law_1028 : decode cL_law 1028 = .ok (.invokevirtual 102, 3) := by decide +kernel
theorem dL_law_1031 : decode cL_law 1031 = .ok (.pop, 1) := by decide +kernel
theorem dL_law_1032 : decode cL_law 1032 = .ok (.aload_n 2, 1) := by decide +kernel
theorem dL_law_1033 : decode cL_law 1033 = .ok (.aload_n 0, 1) := by decide +kernel
theorem dL_law_1034 : decode cL_law 1034 = .ok (.iload_n 3, 1) := by decide +kernel
theorem dL_law_1035 : decode cL_law 1035 = .ok (.iconst 1, 1) := by decide +kernel
theorem dL_law_1036 : decode cL_law 1036 = .ok (.iadd, 1) := by decide +kernel
theorem dL_law_1037 : decode cL_law 1037 = .ok (.iaload, 1) := by decide +kernel
theorem dL_law_1038 : decode cL_law 1038 = .ok (.aload_n 0, 1) := by decide +kernel
theorem dL_law_1039 : decode cL_law 1039 = .ok (.iload_n 3, 1) := by decide +kernel
theorem dL_law_1040 : decode cL_law 1040 = .ok (.iconst 2, 1) := by decide +kernel
theorem dL_law_1041 : decode cL_law 1041 = .ok (.iadd, 1) := by decide +kernel
theorem dL_law_1042 : decode cL_law 1042 = .ok (.iaload, 1) := by decide +kernel
theorem dL_law_1043 : decode cL_law 1043 = .ok (.invokevirtual 105, 3) := by decide +kernel
theorem dL_law_1046 : decode cL_law 1046 = .ok (.pop, 1) := by decide +kernel
theorem dL_law_1047 : decode cL_law 1047 = .ok (.goto 372, 3) := by decide +kernel
theorem dL_law_1050 : decode cL_law 1050 = .ok (.aload_n 1, 1) := by decide +kernel
theorem dL_law_1051 : decode cL_law 1051 = .ok (.aload_n 0, 1) := by decide +kernel
theorem dL_law_1052 : decode cL_law 1052 = .ok (.iload_n 3, 1) := by decide +kernel
theorem dL_law_1053 : decode cL_law 1053 = .ok (.iconst 1, 1) := by decide +kernel
theorem dL_law_1054 : decode cL_law 1054 = .ok (.iadd, 1) := by decide +kernel
theorem dL_law_1055 : decode cL_law 1055 = .ok (.iaload, 1) := by decide +kernel
theorem dL_law_1056 : decode cL_law 1056 = .ok (.invokevirtual 106, 3) := by decide +kernel
theorem dL_law_1059 : decode cL_law 1059 = .ok (.pop, 1) := by decide +kernel
theorem dL_law_1060 : decode cL_law 1060 = .ok (.aload_n 2, 1) := by decide +kernel
theorem dL_law_1061 : decode cL_law 1061 = .ok (.aload_n 0, 1) := by decide +kernel
theorem dL_law_1062 : decode cL_law 1062 = .ok (.iload_n 3, 1) := by decide +kernel
theorem dL_law_1063 : decode cL_law 1063 = .ok (.iconst 1, 1) := by decide +kernel
theorem dL_law_1064 : decode cL_law 1064 = .ok (.iadd, 1) := by decide +kernel
theorem dL_law_1065 : decode cL_law 1065 = .ok (.iaload, 1) := by decide +kernel
theorem dL_law_1066 : decode cL_law 1066 = .ok (.invokevirtual 109, 3) := by decide +kernel
theorem dL_law_1069 : decode cL_law 1069 = .ok (.pop, 1) := by decide +kernel
theorem dL_law_1070 : decode cL_law 1070 = .ok (.goto 349, 3) := by decide +kernel
theorem dL_law_1073 : decode cL_law 1073 = .ok (.aload_n 1, 1) := by decide +kernel
theorem dL_law_1074 : decode cL_law 1074 = .ok (.aload_n 0, 1) := by decide +kernel
theorem dL_law_1075 : decode cL_law 1075 = .ok (.iload_n 3, 1) := by decide +kernel
theorem dL_law_1076 : decode cL_law 1076 = .ok (.iconst 1, 1) := by decide +kernel
theorem dL_law_1077 : decode cL_law 1077 = .ok (.iadd, 1) := by decide +kernel
theorem dL_law_1078 : decode cL_law 1078 = .ok (.iaload, 1) := by decide +kernel
theorem dL_law_1079 : decode cL_law 1079 = .ok (.aload_n 0, 1) := by decide +kernel
theorem dL_law_1080 : decode cL_law 1080 = .ok (.iload_n 3, 1) := by decide +kernel
theorem dL_law_1081 : decode cL_law 1081 = .ok (.iconst 2, 1) := by decide +kernel
theorem dL_law_1082 : decode cL_law 1082 = .ok (.iadd, 1) := by decide +kernel
theorem dL_law_1083 : decode cL_law 1083 = .ok (.iaload, 1) := by decide +kernel
theorem dL_law_1084 : decode cL_law 1084 = .ok (.invokevirtual 110, 3) := by decide +kernel
theorem dL_law_1087 : decode cL_law 1087 = .ok (.pop, 1) := by decide +kernel
theorem dL_law_1088 : decode cL_law 1088 = .ok (.aload_n 2, 1) := by decide +kernel
theorem dL_law_1089 : decode cL_law 1089 = .ok (.aload_n 0, 1) := by decide +kernel
theorem dL_law_1090 : decode cL_law 1090 = .ok (.iload_n 3, 1) := by decide +kernel
theorem dL_law_1091 : decode cL_law 1091 = .ok (.iconst 1, 1) := by decide +kernel
theorem dL_law_1092 : decode cL_law 1092 = .ok (.iadd, 1) := by decide +kernel
theorem dL_law_1093 : decode cL_law 1093 = .ok (.iaload, 1) := by decide +kernel
theorem dL_law_1094 : decode cL_law 1094 = .ok (.aload_n 0, 1) := by decide +kernel
theorem dL_law_1095 : decode cL_law 1095 = .ok (.iload_n 3, 1) := by decide +kernel
theorem dL_law_1096 : decode cL_law 1096 = .ok (.iconst 2, 1) := by decide +kernel
theorem dL_law_1097 : decode cL_law 1097 = .ok (.iadd, 1) := by decide +kernel
theorem dL_law_1098 : decode cL_law 1098 = .ok (.iaload, 1) := by decide +kernel
theorem dL_law_1099 : decode cL_law 1099 = .ok (.invokevirtual 113, 3) := by decide +kernel
theorem dL_law_1102 : decode cL_law 1102 = .ok (.pop, 1) := by decide +kernel
theorem dL_law_1103 : decode cL_law 1103 = .ok (.goto 316, 3) := by decide +kernel
theorem dL_law_1106 : decode cL_law 1106 = .ok (.aload_n 1, 1) := by decide +kernel
theorem dL_law_1107 : decode cL_law 1107 = .ok (.aload_n 0, 1) := by decide +kernel
theorem dL_law_1108 : decode cL_law 1108 = .ok (.iload_n 3, 1) := by decide +kernel
theorem dL_law_1109 : decode cL_law 1109 = .ok (.iconst 1, 1) := by decide +kernel
theorem dL_law_1110 : decode cL_law 1110 = .ok (.iadd, 1) := by decide +kernel
theorem dL_law_1111 : decode cL_law 1111 = .ok (.iaload, 1) := by decide +kernel
theorem dL_law_1112 : decode cL_law 1112 = .ok (.aload_n 0, 1) := by decide +kernel
theorem dL_law_1113 : decode cL_law 1113 = .ok (.iload_n 3, 1) := by decide +kernel
theorem dL_law_1114 : decode cL_law 1114 = .ok (.iconst 2, 1) := by decide +kernel
theorem dL_law_1115 : decode cL_law 1115 = .ok (.iadd, 1) := by decide +kernel
theorem dL_law_1116 : decode cL_law 1116 = .ok (.iaload, 1) := by decide +kernel
theorem dL_law_1117 : decode cL_law 1117 = .ok (.aload_n 0, 1) := by decide +kernel
theorem dL_law_1118 : decode cL_law 1118 = .ok (.iload_n 3, 1) := by decide +kernel
theorem dL_law_1119 : decode cL_law 1119 = .ok (.iconst 3, 1) := by decide +kernel
theorem dL_law_1120 : decode cL_law 1120 = .ok (.iadd, 1) := by decide +kernel
theorem dL_law_1121 : decode cL_law 1121 = .ok (.iaload, 1) := by decide +kernel
theorem dL_law_1122 : decode cL_law 1122 = .ok (.invokevirtual 114, 3) := by decide +kernel
theorem dL_law_1125 : decode cL_law 1125 = .ok (.pop, 1) := by decide +kernel
theorem dL_law_1126 : decode cL_law 1126 = .ok (.aload_n 2, 1) := by decide +kernel
theorem dL_law_1127 : decode cL_law 1127 = .ok (.aload_n 0, 1) := by decide +kernel
theorem dL_law_1128 : decode cL_law 1128 = .ok (.iload_n 3, 1) := by decide +kernel
theorem dL_law_1129 : decode cL_law 1129 = .ok (.iconst 1, 1) := by decide +kernel
theorem dL_law_1130 : decode cL_law 1130 = .ok (.iadd, 1) := by decide +kernel
theorem dL_law_1131 : decode cL_law 1131 = .ok (.iaload, 1) := by decide +kernel
theorem dL_law_1132 : decode cL_law 1132 = .ok (.aload_n 0, 1) := by decide +kernel
theorem dL_law_1133 : decode cL_law 1133 = .ok (.iload_n 3, 1) := by decide +kernel
theorem dL_law_1134 : decode cL_law 1134 = .ok (.iconst 2, 1) := by decide +kernel
theorem dL_law_1135 : decode cL_law 1135 = .ok (.iadd, 1) := by decide +kernel
theorem dL_law_1136 : decode cL_law 1136 = .ok (.iaload, 1) := by decide +kernel
theorem dL_law_1137 : decode cL_law 1137 = .ok (.aload_n 0, 1) := by decide +kernel
theorem dL_law_1138 : decode cL_law 1138 = .ok (.iload_n 3, 1) := by decide +kernel
theorem dL_law_1139 : decode cL_law 1139 = .ok (.iconst 3, 1) := by decide +kernel
theorem dL_law_1140 : decode cL_law 1140 = .ok (.iadd, 1) := by decide +kernel
theorem dL_law_1141 : decode cL_law 1141 = .ok (.iaload, 1) := by decide +kernel
theorem dL_law_1142 : decode cL_law 1142 = .ok (.invokevirtual 117, 3) := by decide +kernel
theorem dL_law_1145 : decode cL_law 1145 = .ok (.pop, 1) := by decide +kernel
theorem dL_law_1146 : decode cL_law 1146 = .ok (.goto 273, 3) := by decide +kernel
theorem dL_law_1149 : decode cL_law 1149 = .ok (.aload_n 1, 1) := by decide +kernel
theorem dL_law_1150 : decode cL_law 1150 = .ok (.aload_n 0, 1) := by decide +kernel
theorem dL_law_1151 : decode cL_law 1151 = .ok (.iload_n 3, 1) := by decide +kernel
theorem dL_law_1152 : decode cL_law 1152 = .ok (.iconst 1, 1) := by decide +kernel
theorem dL_law_1153 : decode cL_law 1153 = .ok (.iadd, 1) := by decide +kernel
theorem dL_law_1154 : decode cL_law 1154 = .ok (.iaload, 1) := by decide +kernel
theorem dL_law_1155 : decode cL_law 1155 = .ok (.aload_n 0, 1) := by decide +kernel
theorem dL_law_1156 : decode cL_law 1156 = .ok (.iload_n 3, 1) := by decide +kernel
theorem dL_law_1157 : decode cL_law 1157 = .ok (.iconst 2, 1) := by decide +kernel
theorem dL_law_1158 : decode cL_law 1158 = .ok (.iadd, 1) := by decide +kernel
theorem dL_law_1159 : decode cL_law 1159 = .ok (.iaload, 1) := by decide +kernel
theorem dL_law_1160 : decode cL_law 1160 = .ok (.invokevirtual 118, 3) := by decide +kernel
theorem dL_law_1163 : decode cL_law 1163 = .ok (.pop, 1) := by decide +kernel
theorem dL_law_1164 : decode cL_law 1164 = .ok (.aload_n 2, 1) := by decide +kernel
theorem dL_law_1165 : decode cL_law 1165 = .ok (.aload_n 0, 1) := by decide +kernel
theorem dL_law_1166 : decode cL_law 1166 = .ok (.iload_n 3, 1) := by decide +kernel
theorem dL_law_1167 : decode cL_law 1167 = .ok (.iconst 1, 1) := by decide +kernel
theorem dL_law_1168 : decode cL_law 1168 = .ok (.iadd, 1) := by decide +kernel
theorem dL_law_1169 : decode cL_law 1169 = .ok (.iaload, 1) := by decide +kernel
theorem dL_law_1170 : decode cL_law 1170 = .ok (.aload_n 0, 1) := by decide +kernel
theorem dL_law_1171 : decode cL_law 1171 = .ok (.iload_n 3, 1) := by decide +kernel
theorem dL_law_1172 : decode cL_law 1172 = .ok (.iconst 2, 1) := by decide +kernel
theorem dL_law_1173 : decode cL_law 1173 = .ok (.iadd, 1) := by decide +kernel
theorem dL_law_1174 : decode cL_law 1174 = .ok (.iaload, 1) := by decide +kernel
theorem dL_law_1175 : decode cL_law 1175 = .ok (.invokevirtual 121, 3) := by decide +kernel
theorem dL_law_1178 : decode cL_law 1178 = .ok (.pop, 1) := by decide +kernel
theorem dL_law_1179 : decode cL_law 1179 = .ok (.goto 240, 3) := by decide +kernel
theorem dL_law_1182 : decode cL_law 1182 = .ok (.aload_n 1, 1) := by decide +kernel
theorem dL_law_1183 : decode cL_law 1183 = .ok (.aload_n 0, 1) := by decide +kernel
theorem dL_law_1184 : decode cL_law 1184 = .ok (.iload_n 3, 1) := by decide +kernel
theorem dL_law_1185 : decode cL_law 1185 = .ok (.iconst 1, 1) := by decide +kernel
theorem dL_law_1186 : decode cL_law 1186 = .ok (.iadd, 1) := by decide +kernel
theorem dL_law_1187 : decode cL_law 1187 = .ok (.iaload, 1) := by decide +kernel
theorem dL_law_1188 : decode cL_law 1188 = .ok (.aload_n 0, 1) := by decide +kernel
theorem dL_law_1189 : decode cL_law 1189 = .ok (.iload_n 3, 1) := by decide +kernel
theorem dL_law_1190 : decode cL_law 1190 = .ok (.iconst 2, 1) := by decide +kernel
theorem dL_law_1191 : decode cL_law 1191 = .ok (.iadd, 1) := by decide +kernel
theorem dL_law_1192 : decode cL_law 1192 = .ok (.iaload, 1) := by decide +kernel
theorem dL_law_1193 : decode cL_law 1193 = .ok (.aload_n 0, 1) := by decide +kernel
theorem dL_law_1194 : decode cL_law 1194 = .ok (.iload_n 3, 1) := by decide +kernel
theorem dL_law_1195 : decode cL_law 1195 = .ok (.iconst 3, 1) := by decide +kernel
theorem dL_law_1196 : decode cL_law 1196 = .ok (.iadd, 1) := by decide +kernel
theorem dL_law_1197 : decode cL_law 1197 = .ok (.iaload, 1) := by decide +kernel
theorem dL_law_1198 : decode cL_law 1198 = .ok (.invokevirtual 122, 3) := by decide +kernel
theorem dL_law_1201 : decode cL_law 1201 = .ok (.pop, 1) := by decide +kernel
theorem dL_law_1202 : decode cL_law 1202 = .ok (.aload_n 2, 1) := by decide +kernel
theorem dL_law_1203 : decode cL_law 1203 = .ok (.aload_n 0, 1) := by decide +kernel
theorem dL_law_1204 : decode cL_law 1204 = .ok (.iload_n 3, 1) := by decide +kernel
theorem dL_law_1205 : decode cL_law 1205 = .ok (.iconst 1, 1) := by decide +kernel
theorem dL_law_1206 : decode cL_law 1206 = .ok (.iadd, 1) := by decide +kernel
theorem dL_law_1207 : decode cL_law 1207 = .ok (.iaload, 1) := by decide +kernel
theorem dL_law_1208 : decode cL_law 1208 = .ok (.aload_n 0, 1) := by decide +kernel
theorem dL_law_1209 : decode cL_law 1209 = .ok (.iload_n 3, 1) := by decide +kernel
theorem dL_law_1210 : decode cL_law 1210 = .ok (.iconst 2, 1) := by decide +kernel
theorem dL_law_1211 : decode cL_law 1211 = .ok (.iadd, 1) := by decide +kernel
theorem dL_law_1212 : decode cL_law 1212 = .ok (.iaload, 1) := by decide +kernel
theorem dL_law_1213 : decode cL_law 1213 = .ok (.aload_n 0, 1) := by decide +kernel
theorem dL_law_1214 : decode cL_law 1214 = .ok (.iload_n 3, 1) := by decide +kernel
theorem dL_law_1215 : decode cL_law 1215 = .ok (.iconst 3, 1) := by decide +kernel
theorem dL_law_1216 : decode cL_law 1216 = .ok (.iadd, 1) := by decide +kernel
theorem dL_law_1217 : decode cL_law 1217 = .ok (.iaload, 1) := by decide +kernel
theorem dL_law_1218 : decode cL_law 1218 = .ok (.invokevirtual 125, 3) := by decide +kernel
theorem dL_law_1221 : decode cL_law 1221 = .ok (.pop, 1) := by decide +kernel
theorem dL_law_1222 : decode cL_law 1222 = .ok (.goto 197, 3) := by decide +kernel
theorem dL_law_1225 : decode cL_law 1225 = .ok (.aload_n 1, 1) := by decide +kernel
theorem dL_law_1226 : decode cL_law 1226 = .ok (.aload_n 0, 1) := by decide +kernel
theorem dL_law_1227 : decode cL_law 1227 = .ok (.iload_n 3, 1) := by decide +kernel
theorem dL_law_1228 : decode cL_law 1228 = .ok (.iconst 1, 1) := by decide +kernel
theorem dL_law_1229 : decode cL_law 1229 = .ok (.iadd, 1) := by decide +kernel
theorem dL_law_1230 : decode cL_law 1230 = .ok (.iaload, 1) := by decide +kernel
theorem dL_law_1231 : decode cL_law 1231 = .ok (.invokevirtual 126, 3) := by decide +kernel
theorem dL_law_1234 : decode cL_law 1234 = .ok (.pop, 1) := by decide +kernel
theorem dL_law_1235 : decode cL_law 1235 = .ok (.aload_n 2, 1) := by decide +kernel
theorem dL_law_1236 : decode cL_law 1236 = .ok (.aload_n 0, 1) := by decide +kernel
theorem dL_law_1237 : decode cL_law 1237 = .ok (.iload_n 3, 1) := by decide +kernel
theorem dL_law_1238 : decode cL_law 1238 = .ok (.iconst 1, 1) := by decide +kernel
theorem dL_law_1239 : decode cL_law 1239 = .ok (.iadd, 1) := by decide +kernel
theorem dL_law_1240 : decode cL_law 1240 = .ok (.iaload, 1) := by decide +kernel
theorem dL_law_1241 : decode cL_law 1241 = .ok (.invokevirtual 129, 3) := by decide +kernel
theorem dL_law_1244 : decode cL_law 1244 = .ok (.pop, 1) := by decide +kernel
theorem dL_law_1245 : decode cL_law 1245 = .ok (.goto 174, 3) := by decide +kernel
theorem dL_law_1248 : decode cL_law 1248 = .ok (.aload_n 1, 1) := by decide +kernel
theorem dL_law_1249 : decode cL_law 1249 = .ok (.aload_n 0, 1) := by decide +kernel
theorem dL_law_1250 : decode cL_law 1250 = .ok (.iload_n 3, 1) := by decide +kernel
theorem dL_law_1251 : decode cL_law 1251 = .ok (.iconst 1, 1) := by decide +kernel
theorem dL_law_1252 : decode cL_law 1252 = .ok (.iadd, 1) := by decide +kernel
theorem dL_law_1253 : decode cL_law 1253 = .ok (.iaload, 1) := by decide +kernel
theorem dL_law_1254 : decode cL_law 1254 = .ok (.invokevirtual 130, 3) := by decide +kernel
theorem dL_law_1257 : decode cL_law 1257 = .ok (.pop, 1) := by decide +kernel
theorem dL_law_1258 : decode cL_law 1258 = .ok (.aload_n 2, 1) := by decide +kernel
theorem dL_law_1259 : decode cL_law 1259 = .ok (.aload_n 0, 1) := by decide +kernel
theorem dL_law_1260 : decode cL_law 1260 = .ok (.iload_n 3, 1) := by decide +kernel
theorem dL_law_1261 : decode cL_law 1261 = .ok (.iconst 1, 1) := by decide +kernel
theorem dL_law_1262 : decode cL_law 1262 = .ok (.iadd, 1) := by decide +kernel
theorem dL_law_1263 : decode cL_law 1263 = .ok (.iaload, 1) := by decide +kernel
theorem dL_law_1264 : decode cL_law 1264 = .ok (.invokevirtual 133, 3) := by decide +kernel
theorem dL_law_1267 : decode cL_law 1267 = .ok (.pop, 1) := by decide +kernel
theorem dL_law_1268 : decode cL_law 1268 = .ok (.goto 151, 3) := by decide +kernel
theorem dL_law_1271 : decode cL_law 1271 = .ok (.aload_n 1, 1) := by decide +kernel
theorem dL_law_1272 : decode cL_law 1272 = .ok (.aload_n 0, 1) := by decide +kernel
theorem dL_law_1273 : decode cL_law 1273 = .ok (.iload_n 3, 1) := by decide +kernel
theorem dL_law_1274 : decode cL_law 1274 = .ok (.iconst 1, 1) := by decide +kernel
theorem dL_law_1275 : decode cL_law 1275 = .ok (.iadd, 1) := by decide +kernel
theorem dL_law_1276 : decode cL_law 1276 = .ok (.iaload, 1) := by decide +kernel
theorem dL_law_1277 : decode cL_law 1277 = .ok (.invokevirtual 134, 3) := by decide +kernel
theorem dL_law_1280 : decode cL_law 1280 = .ok (.pop, 1) := by decide +kernel
theorem dL_law_1281 : decode cL_law 1281 = .ok (.aload_n 2, 1) := by decide +kernel
theorem dL_law_1282 : decode cL_law 1282 = .ok (.aload_n 0, 1) := by decide +kernel
theorem dL_law_1283 : decode cL_law 1283 = .ok (.iload_n 3, 1) := by decide +kernel
theorem dL_law_1284 : decode cL_law 1284 = .ok (.iconst 1, 1) := by decide +kernel
theorem dL_law_1285 : decode cL_law 1285 = .ok (.iadd, 1) := by decide +kernel
theorem dL_law_1286 : decode cL_law 1286 = .ok (.iaload, 1) := by decide +kernel
theorem dL_law_1287 : decode cL_law 1287 = .ok (.invokevirtual 137, 3) := by decide +kernel
theorem dL_law_1290 : decode cL_law 1290 = .ok (.pop, 1) := by decide +kernel
theorem dL_law_1291 : decode cL_law 1291 = .ok (.goto 128, 3) := by decide +kernel
theorem dL_law_1294 : decode cL_law 1294 = .ok (.aload_n 1, 1) := by decide +kernel
theorem dL_law_1295 : decode cL_law 1295 = .ok (.aload_n 0, 1) := by decide +kernel
theorem dL_law_1296 : decode cL_law 1296 = .ok (.iload_n 3, 1) := by decide +kernel
theorem dL_law_1297 : decode cL_law 1297 = .ok (.iconst 1, 1) := by decide +kernel
theorem dL_law_1298 : decode cL_law 1298 = .ok (.iadd, 1) := by decide +kernel
theorem dL_law_1299 : decode cL_law 1299 = .ok (.iaload, 1) := by decide +kernel
theorem dL_law_1300 : decode cL_law 1300 = .ok (.aload_n 0, 1) := by decide +kernel
theorem dL_law_1301 : decode cL_law 1301 = .ok (.iload_n 3, 1) := by decide +kernel
theorem dL_law_1302 : decode cL_law 1302 = .ok (.iconst 2, 1) := by decide +kernel
theorem dL_law_1303 : decode cL_law 1303 = .ok (.iadd, 1) := by decide +kernel
theorem dL_law_1304 : decode cL_law 1304 = .ok (.iaload, 1) := by decide +kernel
theorem dL_law_1305 : decode cL_law 1305 = .ok (.invokevirtual 138, 3) := by decide +kernel
theorem dL_law_1308 : decode cL_law 1308 = .ok (.pop, 1) := by decide +kernel
theorem dL_law_1309 : decode cL_law 1309 = .ok (.aload_n 2, 1) := by decide +kernel
theorem dL_law_1310 : decode cL_law 1310 = .ok (.aload_n 0, 1) := by decide +kernel
theorem dL_law_1311 : decode cL_law 1311 = .ok (.iload_n 3, 1) := by decide +kernel
theorem dL_law_1312 : decode cL_law 1312 = .ok (.iconst 1, 1) := by decide +kernel
theorem dL_law_1313 : decode cL_law 1313 = .ok (.iadd, 1) := by decide +kernel
theorem dL_law_1314 : decode cL_law 1314 = .ok (.iaload, 1) := by decide +kernel
theorem dL_law_1315 : decode cL_law 1315 = .ok (.aload_n 0, 1) := by decide +kernel
theorem dL_law_1316 : decode cL_law 1316 = .ok (.iload_n 3, 1) := by decide +kernel
theorem dL_law_1317 : decode cL_law 1317 = .ok (.iconst 2, 1) := by decide +kernel
theorem dL_law_1318 : decode cL_law 1318 = .ok (.iadd, 1) := by decide +kernel
theorem dL_law_1319 : decode cL_law 1319 = .ok (.iaload, 1) := by decide +kernel
theorem dL_law_1320 : decode cL_law 1320 = .ok (.invokevirtual 141, 3) := by decide +kernel
theorem dL_law_1323 : decode cL_law 1323 = .ok (.pop, 1) := by decide +kernel
theorem dL_law_1324 : decode cL_law 1324 = .ok (.goto 95, 3) := by decide +kernel
theorem dL_law_1327 : decode cL_law 1327 = .ok (.aload_n 1, 1) := by decide +kernel
theorem dL_law_1328 : decode cL_law 1328 = .ok (.aload_n 0, 1) := by decide +kernel
theorem dL_law_1329 : decode cL_law 1329 = .ok (.iload_n 3, 1) := by decide +kernel
theorem dL_law_1330 : decode cL_law 1330 = .ok (.iconst 1, 1) := by decide +kernel
theorem dL_law_1331 : decode cL_law 1331 = .ok (.iadd, 1) := by decide +kernel
theorem dL_law_1332 : decode cL_law 1332 = .ok (.iaload, 1) := by decide +kernel
theorem dL_law_1333 : decode cL_law 1333 = .ok (.invokevirtual 142, 3) := by decide +kernel
theorem dL_law_1336 : decode cL_law 1336 = .ok (.pop, 1) := by decide +kernel
theorem dL_law_1337 : decode cL_law 1337 = .ok (.aload_n 2, 1) := by decide +kernel
theorem dL_law_1338 : decode cL_law 1338 = .ok (.aload_n 0, 1) := by decide +kernel
theorem dL_law_1339 : decode cL_law 1339 = .ok (.iload_n 3, 1) := by decide +kernel
theorem dL_law_1340 : decode cL_law 1340 = .ok (.iconst 1, 1) := by decide +kernel
theorem dL_law_1341 : decode cL_law 1341 = .ok (.iadd, 1) := by decide +kernel
theorem dL_law_1342 : decode cL_law 1342 = .ok (.iaload, 1) := by decide +kernel
theorem dL_law_1343 : decode cL_law 1343 = .ok (.invokevirtual 145, 3) := by decide +kernel
theorem dL_law_1346 : decode cL_law 1346 = .ok (.pop, 1) := by decide +kernel
theorem dL_law_1347 : decode cL_law 1347 = .ok (.goto 72, 3) := by decide +kernel
theorem dL_law_1350 : decode cL_law 1350 = .ok (.aload_n 1, 1) := by decide +kernel
theorem dL_law_1351 : decode cL_law 1351 = .ok (.invokevirtual 146, 3) := by decide +kernel
theorem dL_law_1354 : decode cL_law 1354 = .ok (.pop, 1) := by decide +kernel
theorem dL_law_1355 : decode cL_law 1355 = .ok (.aload_n 2, 1) := by decide +kernel
theorem dL_law_1356 : decode cL_law 1356 = .ok (.invokevirtual 150, 3) := by decide +kernel
theorem dL_law_1359 : decode cL_law 1359 = .ok (.pop, 1) := by decide +kernel
theorem dL_law_1360 : decode cL_law 1360 = .ok (.goto 59, 3) := by decide +kernel
theorem dL_law_1363 : decode cL_law 1363 = .ok (.aload_n 1, 1) := by decide +kernel
theorem dL_law_1364 : decode cL_law 1364 = .ok (.aload_n 0, 1) := by decide +kernel
theorem dL_law_1365 : decode cL_law 1365 = .ok (.iload_n 3, 1) := by decide +kernel
theorem dL_law_1366 : decode cL_law 1366 = .ok (.iconst 1, 1) := by decide +kernel
theorem dL_law_1367 : decode cL_law 1367 = .ok (.iadd, 1) := by decide +kernel
theorem dL_law_1368 : decode cL_law 1368 = .ok (.iaload, 1) := by decide +kernel
theorem dL_law_1369 : decode cL_law 1369 = .ok (.invokevirtual 151, 3) := by decide +kernel
theorem dL_law_1372 : decode cL_law 1372 = .ok (.pop, 1) := by decide +kernel
theorem dL_law_1373 : decode cL_law 1373 = .ok (.aload_n 2, 1) := by decide +kernel
theorem dL_law_1374 : decode cL_law 1374 = .ok (.aload_n 0, 1) := by decide +kernel
theorem dL_law_1375 : decode cL_law 1375 = .ok (.iload_n 3, 1) := by decide +kernel
theorem dL_law_1376 : decode cL_law 1376 = .ok (.iconst 1, 1) := by decide +kernel
theorem dL_law_1377 : decode cL_law 1377 = .ok (.iadd, 1) := by decide +kernel
theorem dL_law_1378 : decode cL_law 1378 = .ok (.iaload, 1) := by decide +kernel
theorem dL_law_1379 : decode cL_law 1379 = .ok (.invokevirtual 154, 3) := by decide +kernel
theorem dL_law_1382 : decode cL_law 1382 = .ok (.pop, 1) := by decide +kernel
theorem dL_law_1383 : decode cL_law 1383 = .ok (.goto 36, 3) := by decide +kernel
theorem dL_law_1386 : decode cL_law 1386 = .ok (.aload_n 1, 1) := by decide +kernel
theorem dL_law_1387 : decode cL_law 1387 = .ok (.aload_n 0, 1) := by decide +kernel
theorem dL_law_1388 : decode cL_law 1388 = .ok (.iload_n 3, 1) := by decide +kernel
theorem dL_law_1389 : decode cL_law 1389 = .ok (.iconst 1, 1) := by decide +kernel
theorem dL_law_1390 : decode cL_law 1390 = .ok (.iadd, 1) := by decide +kernel
theorem dL_law_1391 : decode cL_law 1391 = .ok (.iaload, 1) := by decide +kernel
theorem dL_law_1392 : decode cL_law 1392 = .ok (.aload_n 0, 1) := by decide +kernel
theorem dL_law_1393 : decode cL_law 1393 = .ok (.iload_n 3, 1) := by decide +kernel
theorem dL_law_1394 : decode cL_law 1394 = .ok (.iconst 2, 1) := by decide +kernel
theorem dL_law_1395 : decode cL_law 1395 = .ok (.iadd, 1) := by decide +kernel
theorem dL_law_1396 : decode cL_law 1396 = .ok (.iaload, 1) := by decide +kernel
theorem dL_law_1397 : decode cL_law 1397 = .ok (.invokevirtual 155, 3) := by decide +kernel
theorem dL_law_1400 : decode cL_law 1400 = .ok (.pop, 1) := by decide +kernel
theorem dL_law_1401 : decode cL_law 1401 = .ok (.aload_n 2, 1) := by decide +kernel
theorem dL_law_1402 : decode cL_law 1402 = .ok (.aload_n 0, 1) := by decide +kernel
theorem dL_law_1403 : decode cL_law 1403 = .ok (.iload_n 3, 1) := by decide +kernel
theorem dL_law_1404 : decode cL_law 1404 = .ok (.iconst 1, 1) := by decide +kernel
theorem dL_law_1405 : decode cL_law 1405 = .ok (.iadd, 1) := by decide +kernel
theorem dL_law_1406 : decode cL_law 1406 = .ok (.iaload, 1) := by decide +kernel
theorem dL_law_1407 : decode cL_law 1407 = .ok (.aload_n 0, 1) := by decide +kernel
theorem dL_law_1408 : decode cL_law 1408 = .ok (.iload_n 3, 1) := by decide +kernel
theorem dL_law_1409 : decode cL_law 1409 = .ok (.iconst 2, 1) := by decide +kernel
theorem dL_law_1410 : decode cL_law 1410 = .ok (.iadd, 1) := by decide +kernel
theorem dL_law_1411 : decode cL_law 1411 = .ok (.iaload, 1) := by decide +kernel
theorem dL_law_1412 : decode cL_law 1412 = .ok (.invokevirtual 158, 3) := by decide +kernel
theorem dL_law_1415 : decode cL_law 1415 = .ok (.pop, 1) := by decide +kernel
theorem dL_law_1416 : decode cL_law 1416 = .ok (.goto 3, 3) := by decide +kernel
theorem dL_law_1419 : decode cL_law 1419 = .ok (.iinc 3 5, 3) := by decide +kernel
theorem dL_law_1422 : decode cL_law 1422 = .ok (.goto (-1404), 3) := by decide +kernel
theorem dL_law_1425 : decode cL_law 1425 = .ok (.iconst 1, 1) := by decide +kernel
theorem dL_law_1426 : decode cL_law 1426 = .ok (.ireturn, 1) := by decide +kernel
