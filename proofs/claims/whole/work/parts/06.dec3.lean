theorem dX8_acts_207 : decode cX8_acts 207 = .ok (.goto 29, 3) := by decide +kernel
theorem dX8_acts_210 : decode cX8_acts 210 = .ok (.aload_n 0, 1) := by decide +kernel
theorem dX8_acts_211 : decode cX8_acts 211 = .ok (.iload_n 1, 1) := by decide +kernel
theorem dX8_acts_212 : decode cX8_acts 212 = .ok (.invokevirtual 168, 3) := by decide +kernel
theorem dX8_acts_215 : decode cX8_acts 215 = .ok (.goto 21, 3) := by decide +kernel
theorem dX8_acts_218 : decode cX8_acts 218 = .ok (.aload_n 0, 1) := by decide +kernel
theorem dX8_acts_219 : decode cX8_acts 219 = .ok (.iload_n 1, 1) := by decide +kernel
theorem dX8_acts_220 : decode cX8_acts 220 = .ok (.invokevirtual 171, 3) := by decide +kernel
theorem dX8_acts_223 : decode cX8_acts 223 = .ok (.goto 13, 3) := by decide +kernel
theorem dX8_acts_226 : decode cX8_acts 226 = .ok (.aload_n 0, 1) := by decide +kernel
theorem dX8_acts_227 : decode cX8_acts 227 = .ok (.iload_n 3, 1) := by decide +kernel
theorem dX8_acts_228 : decode cX8_acts 228 = .ok (.invokevirtual 125, 3) := by decide +kernel
theorem dX8_acts_231 : decode cX8_acts 231 = .ok (.aload_n 0, 1) := by decide +kernel
theorem dX8_acts_232 : decode cX8_acts 232 = .ok (.iload_n 1, 1) := by decide +kernel
theorem dX8_acts_233 : decode cX8_acts 233 = .ok (.invokevirtual 158, 3) := by decide +kernel
theorem dX8_acts_236 : decode cX8_acts 236 = .ok (.return_, 1) := by decide +kernel
theorem dX8_ofCrew_0 : decode cX8_ofCrew 0 = .ok (.aload_n 0, 1) := by decide +kernel
theorem dX8_ofCrew_1 : decode cX8_ofCrew 1 = .ok (.iload_n 1, 1) := by decide +kernel
theorem dX8_ofCrew_2 : decode cX8_ofCrew 2 = .ok (.invokevirtual 155, 3) := by decide +kernel
theorem dX8_ofCrew_5 : decode cX8_ofCrew 5 = .ok (.ifCond .ne 5, 3) := by decide +kernel
theorem dX8_ofCrew_8 : decode cX8_ofCrew 8 = .ok (.iconst (-1), 1) := by decide +kernel
theorem dX8_ofCrew_9 : decode cX8_ofCrew 9 = .ok (.ireturn, 1) := by decide +kernel
theorem dX8_ofCrew_10 : decode cX8_ofCrew 10 = .ok (.sipush 1536, 3) := by decide +kernel
theorem dX8_ofCrew_13 : decode cX8_ofCrew 13 = .ok (.bipush 8, 2) := by decide +kernel
theorem dX8_ofCrew_15 : decode cX8_ofCrew 15 = .ok (.iload_n 1, 1) := by decide +kernel
theorem dX8_ofCrew_16 : decode cX8_ofCrew 16 = .ok (.imul, 1) := by decide +kernel
theorem dX8_ofCrew_17 : decode cX8_ofCrew 17 = .ok (.iadd, 1) := by decide +kernel
theorem dX8_ofCrew_18 : decode cX8_ofCrew 18 = .ok (.istore_n 3, 1) := by decide +kernel
theorem dX8_ofCrew_19 : decode cX8_ofCrew 19 = .ok (.iload_n 2, 1) := by decide +kernel
theorem dX8_ofCrew_20 : decode cX8_ofCrew 20 = .ok (.tableswitch 140 0 7 #[48, 55, 64, 94, 103, 112, 121, 130], 48) := by decide +kernel
theorem dX8_ofCrew_68 : decode cX8_ofCrew 68 = .ok (.aload_n 0, 1) := by decide +kernel
theorem dX8_ofCrew_69 : decode cX8_ofCrew 69 = .ok (.getfield 50, 3) := by decide +kernel
theorem dX8_ofCrew_72 : decode cX8_ofCrew 72 = .ok (.iload_n 3, 1) := by decide +kernel
theorem dX8_ofCrew_73 : decode cX8_ofCrew 73 = .ok (.iaload, 1) := by decide +kernel
theorem dX8_ofCrew_74 : decode cX8_ofCrew 74 = .ok (.ireturn, 1) := by decide +kernel
theorem dX8_ofCrew_75 : decode cX8_ofCrew 75 = .ok (.aload_n 0, 1) := by decide +kernel
theorem dX8_ofCrew_76 : decode cX8_ofCrew 76 = .ok (.getfield 50, 3) := by decide +kernel
theorem dX8_ofCrew_79 : decode cX8_ofCrew 79 = .ok (.iload_n 3, 1) := by decide +kernel
theorem dX8_ofCrew_80 : decode cX8_ofCrew 80 = .ok (.iconst 1, 1) := by decide +kernel
theorem dX8_ofCrew_81 : decode cX8_ofCrew 81 = .ok (.iadd, 1) := by decide +kernel
theorem dX8_ofCrew_82 : decode cX8_ofCrew 82 = .ok (.iaload, 1) := by decide +kernel
theorem dX8_ofCrew_83 : decode cX8_ofCrew 83 = .ok (.ireturn, 1) := by decide +kernel
theorem dX8_ofCrew_84 : decode cX8_ofCrew 84 = .ok (.aload_n 0, 1) := by decide +kernel
theorem dX8_ofCrew_85 : decode cX8_ofCrew 85 = .ok (.getfield 50, 3) := by decide +kernel
theorem dX8_ofCrew_88 : decode cX8_ofCrew 88 = .ok (.iload_n 3, 1) := by decide +kernel
theorem dX8_ofCrew_89 : decode cX8_ofCrew 89 = .ok (.iconst 2, 1) := by decide +kernel
theorem dX8_ofCrew_90 : decode cX8_ofCrew 90 = .ok (.iadd, 1) := by decide +kernel
theorem dX8_ofCrew_91 : decode cX8_ofCrew 91 = .ok (.iaload, 1) := by decide +kernel
theorem dX8_ofCrew_92 : decode cX8_ofCrew 92 = .ok (.ifCond .ne 8, 3) := by decide +kernel
theorem dX8_ofCrew_95 : decode cX8_ofCrew 95 = .ok (.bipush (-6), 2) := by decide +kernel
theorem dX8_ofCrew_97 : decode cX8_ofCrew 97 = .ok (.goto 16, 3) := by decide +kernel
theorem dX8_ofCrew_100 : decode cX8_ofCrew 100 = .ok (.aload_n 0, 1) := by decide +kernel
theorem dX8_ofCrew_101 : decode cX8_ofCrew 101 = .ok (.getfield 50, 3) := by decide +kernel
theorem dX8_ofCrew_104 : decode cX8_ofCrew 104 = .ok (.sipush 1600, 3) := by decide +kernel
theorem dX8_ofCrew_107 : decode cX8_ofCrew 107 = .ok (.bipush 24, 2) := by decide +kernel
theorem dX8_ofCrew_109 : decode cX8_ofCrew 109 = .ok (.iload_n 1, 1) := by decide +kernel
theorem dX8_ofCrew_110 : decode cX8_ofCrew 110 = .ok (.imul, 1) := by decide +kernel
theorem dX8_ofCrew_111 : decode cX8_ofCrew 111 = .ok (.iadd, 1) := by decide +kernel
theorem dX8_ofCrew_112 : decode cX8_ofCrew 112 = .ok (.iaload, 1) := by decide +kernel
theorem dX8_ofCrew_113 : decode cX8_ofCrew 113 = .ok (.ireturn, 1) := by decide +kernel
theorem dX8_ofCrew_114 : decode cX8_ofCrew 114 = .ok (.aload_n 0, 1) := by decide +kernel
theorem dX8_ofCrew_115 : decode cX8_ofCrew 115 = .ok (.getfield 50, 3) := by decide +kernel
theorem dX8_ofCrew_118 : decode cX8_ofCrew 118 = .ok (.iload_n 3, 1) := by decide +kernel
theorem dX8_ofCrew_119 : decode cX8_ofCrew 119 = .ok (.iconst 2, 1) := by decide +kernel
theorem dX8_ofCrew_120 : decode cX8_ofCrew 120 = .ok (.iadd, 1) := by decide +kernel
theorem dX8_ofCrew_121 : decode cX8_ofCrew 121 = .ok (.iaload, 1) := by decide +kernel
theorem dX8_ofCrew_122 : decode cX8_ofCrew 122 = .ok (.ireturn, 1) := by decide +kernel
theorem dX8_ofCrew_123 : decode cX8_ofCrew 123 = .ok (.aload_n 0, 1) := by decide +kernel
theorem dX8_ofCrew_124 : decode cX8_ofCrew 124 = .ok (.getfield 50, 3) := by decide +kernel
theorem dX8_ofCrew_127 : decode cX8_ofCrew 127 = .ok (.iload_n 3, 1) := by decide +kernel
theorem dX8_ofCrew_128 : decode cX8_ofCrew 128 = .ok (.iconst 3, 1) := by decide +kernel
theorem dX8_ofCrew_129 : decode cX8_ofCrew 129 = .ok (.iadd, 1) := by decide +kernel
theorem dX8_ofCrew_130 : decode cX8_ofCrew 130 = .ok (.iaload, 1) := by decide +kernel
theorem dX8_ofCrew_131 : decode cX8_ofCrew 131 = .ok (.ireturn, 1) := by decide +kernel
theorem dX8_ofCrew_132 : decode cX8_ofCrew 132 = .ok (.aload_n 0, 1) := by decide +kernel
theorem dX8_ofCrew_133 : decode cX8_ofCrew 133 = .ok (.getfield 50, 3) := by decide +kernel
theorem dX8_ofCrew_136 : decode cX8_ofCrew 136 = .ok (.iload_n 3, 1) := by decide +kernel
theorem dX8_ofCrew_137 : decode cX8_ofCrew 137 = .ok (.iconst 4, 1) := by decide +kernel
theorem dX8_ofCrew_138 : decode cX8_ofCrew 138 = .ok (.iadd, 1) := by decide +kernel
theorem dX8_ofCrew_139 : decode cX8_ofCrew 139 = .ok (.iaload, 1) := by decide +kernel
theorem dX8_ofCrew_140 : decode cX8_ofCrew 140 = .ok (.ireturn, 1) := by decide +kernel
theorem dX8_ofCrew_141 : decode cX8_ofCrew 141 = .ok (.aload_n 0, 1) := by decide +kernel
theorem dX8_ofCrew_142 : decode cX8_ofCrew 142 = .ok (.getfield 50, 3) := by decide +kernel
theorem dX8_ofCrew_145 : decode cX8_ofCrew 145 = .ok (.iload_n 3, 1) := by decide +kernel
theorem dX8_ofCrew_146 : decode cX8_ofCrew 146 = .ok (.iconst 5, 1) := by decide +kernel
theorem dX8_ofCrew_147 : decode cX8_ofCrew 147 = .ok (.iadd, 1) := by decide +kernel
theorem dX8_ofCrew_148 : decode cX8_ofCrew 148 = .ok (.iaload, 1) := by decide +kernel
theorem dX8_ofCrew_149 : decode cX8_ofCrew 149 = .ok (.ireturn, 1) := by decide +kernel
theorem dX8_ofCrew_150 : decode cX8_ofCrew 150 = .ok (.aload_n 0, 1) := by decide +kernel
theorem dX8_ofCrew_151 : decode cX8_ofCrew 151 = .ok (.getfield 50, 3) := by decide +kernel
theorem dX8_ofCrew_154 : decode cX8_ofCrew 154 = .ok (.iload_n 3, 1) := by decide +kernel
theorem dX8_ofCrew_155 : decode cX8_ofCrew 155 = .ok (.bipush 6, 2) := by decide +kernel
theorem dX8_ofCrew_157 : decode cX8_ofCrew 157 = .ok (.iadd, 1) := by decide +kernel
theorem dX8_ofCrew_158 : decode cX8_ofCrew 158 = .ok (.iaload, 1) := by decide +kernel
theorem dX8_ofCrew_159 : decode cX8_ofCrew 159 = .ok (.ireturn, 1) := by decide +kernel
theorem dX8_ofCrew_160 : decode cX8_ofCrew 160 = .ok (.bipush (-2), 2) := by decide +kernel
theorem dX8_ofCrew_162 : decode cX8_ofCrew 162 = .ok (.ireturn, 1) := by decide +kernel
theorem dX8_strips_0 : decode cX8_strips 0 = .ok (.iload_n 1, 1) := by decide +kernel
theorem dX8_strips_1 : decode cX8_strips 1 = .ok (.iconst 1, 1) := by decide +kernel
theorem dX8_strips_2 : decode cX8_strips 2 = .ok (.bipush 8, 2) := by decide +kernel
theorem dX8_strips_4 : decode cX8_strips 4 = .ok (.invokestatic 74, 3) := by decide +kernel
theorem dX8_strips_7 : decode cX8_strips 7 = .ok (.ifCond .eq 11, 3) := by decide +kernel
theorem dX8_strips_10 : decode cX8_strips 10 = .ok (.iload_n 1, 1) := by decide +kernel
theorem dX8_strips_11 : decode cX8_strips 11 = .ok (.aload_n 0, 1) := by decide +kernel
theorem dX8_strips_12 : decode cX8_strips 12 = .ok (.getfield 7, 3) := by decide +kernel
theorem dX8_strips_15 : decode cX8_strips 15 = .ok (.if_icmp .le 6, 3) := by decide +kernel
theorem dX8_strips_18 : decode cX8_strips 18 = .ok (.bipush (-2), 2) := by decide +kernel
theorem dX8_strips_20 : decode cX8_strips 20 = .ok (.ireturn, 1) := by decide +kernel
theorem dX8_strips_21 : decode cX8_strips 21 = .ok (.iconst 0, 1) := by decide +kernel
theorem dX8_strips_22 : decode cX8_strips 22 = .ok (.istore_n 2, 1) := by decide +kernel
theorem dX8_strips_23 : decode cX8_strips 23 = .ok (.iconst 0, 1) := by decide +kernel
theorem dX8_strips_24 : decode cX8_strips 24 = .ok (.istore_n 3, 1) := by decide +kernel
theorem dX8_strips_25 : decode cX8_strips 25 = .ok (.iload_n 3, 1) := by decide +kernel
theorem dX8_strips_26 : decode cX8_strips 26 = .ok (.iload_n 1, 1) := by decide +kernel
theorem dX8_strips_27 : decode cX8_strips 27 = .ok (.if_icmp .ge 86, 3) := by decide +kernel
theorem dX8_strips_30 : decode cX8_strips 30 = .ok (.aload_n 0, 1) := by decide +kernel
theorem dX8_strips_31 : decode cX8_strips 31 = .ok (.getfield 7, 3) := by decide +kernel
theorem dX8_strips_34 : decode cX8_strips 34 = .ok (.iload_n 1, 1) := by decide +kernel
theorem dX8_strips_35 : decode cX8_strips 35 = .ok (.idiv, 1) := by decide +kernel
theorem dX8_strips_36 : decode cX8_strips 36 = .ok (.iload_n 3, 1) := by decide +kernel
theorem dX8_strips_37 : decode cX8_strips 37 = .ok (.aload_n 0, 1) := by decide +kernel
theorem dX8_strips_38 : decode cX8_strips 38 = .ok (.getfield 7, 3) := by decide +kernel
theorem dX8_strips_41 : decode cX8_strips 41 = .ok (.iload_n 1, 1) := by decide +kernel
theorem dX8_strips_42 : decode cX8_strips 42 = .ok (.irem, 1) := by decide +kernel
theorem dX8_strips_43 : decode cX8_strips 43 = .ok (.if_icmp .ge 7, 3) := by decide +kernel
theorem dX8_strips_46 : decode cX8_strips 46 = .ok (.iconst 1, 1) := by decide +kernel
theorem dX8_strips_47 : decode cX8_strips 47 = .ok (.goto 4, 3) := by decide +kernel
theorem dX8_strips_50 : decode cX8_strips 50 = .ok (.iconst 0, 1) := by decide +kernel
theorem dX8_strips_51 : decode cX8_strips 51 = .ok (.iadd, 1) := by decide +kernel
theorem dX8_strips_52 : decode cX8_strips 52 = .ok (.istore 4, 2) := by decide +kernel
theorem dX8_strips_54 : decode cX8_strips 54 = .ok (.aload_n 0, 1) := by decide +kernel
theorem dX8_strips_55 : decode cX8_strips 55 = .ok (.getfield 50, 3) := by decide +kernel
theorem dX8_strips_58 : decode cX8_strips 58 = .ok (.sipush 1792, 3) := by decide +kernel
theorem dX8_strips_61 : decode cX8_strips 61 = .ok (.iconst 3, 1) := by decide +kernel
theorem dX8_strips_62 : decode cX8_strips 62 = .ok (.iload_n 3, 1) := by decide +kernel
theorem dX8_strips_63 : decode cX8_strips 63 = .ok (.imul, 1) := by decide +kernel
theorem dX8_strips_64 : decode cX8_strips 64 = .ok (.iadd, 1) := by decide +kernel
theorem dX8_strips_65 : decode cX8_strips 65 = .ok (.iload_n 2, 1) := by decide +kernel
theorem dX8_strips_66 : decode cX8_strips 66 = .ok (.iastore, 1) := by decide +kernel
theorem dX8_strips_67 : decode cX8_strips 67 = .ok (.aload_n 0, 1) := by decide +kernel
theorem dX8_strips_68 : decode cX8_strips 68 = .ok (.getfield 50, 3) := by decide +kernel
theorem dX8_strips_71 : decode cX8_strips 71 = .ok (.sipush 1792, 3) := by decide +kernel
theorem dX8_strips_74 : decode cX8_strips 74 = .ok (.iconst 3, 1) := by decide +kernel
theorem dX8_strips_75 : decode cX8_strips 75 = .ok (.iload_n 3, 1) := by decide +kernel
theorem dX8_strips_76 : decode cX8_strips 76 = .ok (.imul, 1) := by decide +kernel
theorem dX8_strips_77 : decode cX8_strips 77 = .ok (.iadd, 1) := by decide +kernel
theorem dX8_strips_78 : decode cX8_strips 78 = .ok (.iconst 1, 1) := by decide +kernel
theorem dX8_strips_79 : decode cX8_strips 79 = .ok (.iadd, 1) := by decide +kernel
theorem dX8_strips_80 : decode cX8_strips 80 = .ok (.iload_n 2, 1) := by decide +kernel
theorem dX8_strips_81 : decode cX8_strips 81 = .ok (.iload 4, 2) := by decide +kernel
theorem dX8_strips_83 : decode cX8_strips 83 = .ok (.iadd, 1) := by decide +kernel
theorem dX8_strips_84 : decode cX8_strips 84 = .ok (.iconst 1, 1) := by decide +kernel
theorem dX8_strips_85 : decode cX8_strips 85 = .ok (.isub, 1) := by decide +kernel
theorem dX8_strips_86 : decode cX8_strips 86 = .ok (.iastore, 1) := by decide +kernel
theorem dX8_strips_87 : decode cX8_strips 87 = .ok (.aload_n 0, 1) := by decide +kernel
theorem dX8_strips_88 : decode cX8_strips 88 = .ok (.getfield 50, 3) := by decide +kernel
theorem dX8_strips_91 : decode cX8_strips 91 = .ok (.sipush 1792, 3) := by decide +kernel
theorem dX8_strips_94 : decode cX8_strips 94 = .ok (.iconst 3, 1) := by decide +kernel
theorem dX8_strips_95 : decode cX8_strips 95 = .ok (.iload_n 3, 1) := by decide +kernel
theorem dX8_strips_96 : decode cX8_strips 96 = .ok (.imul, 1) := by decide +kernel
theorem dX8_strips_97 : decode cX8_strips 97 = .ok (.iadd, 1) := by decide +kernel
theorem dX8_strips_98 : decode cX8_strips 98 = .ok (.iconst 2, 1) := by decide +kernel
theorem dX8_strips_99 : decode cX8_strips 99 = .ok (.iadd, 1) := by decide +kernel
theorem dX8_strips_100 : decode cX8_strips 100 = .ok (.iconst 0, 1) := by decide +kernel
theorem dX8_strips_101 : decode cX8_strips 101 = .ok (.iastore, 1) := by decide +kernel
theorem dX8_strips_102 : decode cX8_strips 102 = .ok (.iload_n 2, 1) := by decide +kernel
theorem dX8_strips_103 : decode cX8_strips 103 = .ok (.iload 4, 2) := by decide +kernel
theorem dX8_strips_105 : decode cX8_strips 105 = .ok (.iadd, 1) := by decide +kernel
theorem dX8_strips_106 : decode cX8_strips 106 = .ok (.istore_n 2, 1) := by decide +kernel
theorem dX8_strips_107 : decode cX8_strips 107 = .ok (.iinc 3 1, 3) := by decide +kernel
theorem dX8_strips_110 : decode cX8_strips 110 = .ok (.goto (-85), 3) := by decide +kernel
theorem dX8_strips_113 : decode cX8_strips 113 = .ok (.aload_n 0, 1) := by decide +kernel
theorem dX8_strips_114 : decode cX8_strips 114 = .ok (.getfield 50, 3) := by decide +kernel
theorem dX8_strips_117 : decode cX8_strips 117 = .ok (.sipush 1818, 3) := by decide +kernel
theorem dX8_strips_120 : decode cX8_strips 120 = .ok (.iload_n 1, 1) := by decide +kernel
theorem dX8_strips_121 : decode cX8_strips 121 = .ok (.iastore, 1) := by decide +kernel
theorem dX8_strips_122 : decode cX8_strips 122 = .ok (.aload_n 0, 1) := by decide +kernel
theorem dX8_strips_123 : decode cX8_strips 123 = .ok (.getfield 50, 3) := by decide +kernel
theorem dX8_strips_126 : decode cX8_strips 126 = .ok (.sipush 1793, 3) := by decide +kernel
theorem dX8_strips_129 : decode cX8_strips 129 = .ok (.iaload, 1) := by decide +kernel
theorem dX8_strips_130 : decode cX8_strips 130 = .ok (.iconst 1, 1) := by decide +kernel
theorem dX8_strips_131 : decode cX8_strips 131 = .ok (.iadd, 1) := by decide +kernel
theorem dX8_strips_132 : decode cX8_strips 132 = .ok (.ireturn, 1) := by decide +kernel
theorem dX8_balanced_0 : decode cX8_balanced 0 = .ok (.aload_n 0, 1) := by decide +kernel
theorem dX8_balanced_1 : decode cX8_balanced 1 = .ok (.getfield 145, 3) := by decide +kernel
theorem dX8_balanced_4 : decode cX8_balanced 4 = .ok (.ifCond .eq 7, 3) := by decide +kernel
theorem dX8_balanced_7 : decode cX8_balanced 7 = .ok (.iconst 1, 1) := by decide +kernel
theorem dX8_balanced_8 : decode cX8_balanced 8 = .ok (.goto 4, 3) := by decide +kernel
theorem dX8_balanced_11 : decode cX8_balanced 11 = .ok (.iconst 0, 1) := by decide +kernel
theorem dX8_balanced_12 : decode cX8_balanced 12 = .ok (.istore_n 2, 1) := by decide +kernel
theorem dX8_balanced_13 : decode cX8_balanced 13 = .ok (.aload_n 0, 1) := by decide +kernel
theorem dX8_balanced_14 : decode cX8_balanced 14 = .ok (.iload_n 1, 1) := by decide +kernel
theorem dX8_balanced_15 : decode cX8_balanced 15 = .ok (.putfield 145, 3) := by decide +kernel
theorem dX8_balanced_18 : decode cX8_balanced 18 = .ok (.iload_n 2, 1) := by decide +kernel
theorem dX8_balanced_19 : decode cX8_balanced 19 = .ok (.ireturn, 1) := by decide +kernel
theorem dX8_balance_0 : decode cX8_balance 0 = .ok (.aload_n 0, 1) := by decide +kernel
theorem dX8_balance_1 : decode cX8_balance 1 = .ok (.getfield 50, 3) := by decide +kernel
theorem dX8_balance_4 : decode cX8_balance 4 = .ok (.sipush 1818, 3) := by decide +kernel
theorem dX8_balance_7 : decode cX8_balance 7 = .ok (.iaload, 1) := by decide +kernel
theorem dX8_balance_8 : decode cX8_balance 8 = .ok (.istore_n 1, 1) := by decide +kernel
theorem dX8_balance_9 : decode cX8_balance 9 = .ok (.iconst 0, 1) := by decide +kernel
theorem dX8_balance_10 : decode cX8_balance 10 = .ok (.istore_n 2, 1) := by decide +kernel
theorem dX8_balance_11 : decode cX8_balance 11 = .ok (.iconst 0, 1) := by decide +kernel
theorem dX8_balance_12 : decode cX8_balance 12 = .ok (.istore_n 3, 1) := by decide +kernel
theorem dX8_balance_13 : decode cX8_balance 13 = .ok (.iconst 0, 1) := by decide +kernel
theorem dX8_balance_14 : decode cX8_balance 14 = .ok (.istore 4, 2) := by decide +kernel
theorem dX8_balance_16 : decode cX8_balance 16 = .ok (.iload 4, 2) := by decide +kernel
theorem dX8_balance_18 : decode cX8_balance 18 = .ok (.iload_n 1, 1) := by decide +kernel
theorem dX8_balance_19 : decode cX8_balance 19 = .ok (.if_icmp .ge 66, 3) := by decide +kernel
theorem dX8_balance_22 : decode cX8_balance 22 = .ok (.iload_n 2, 1) := by decide +kernel
theorem dX8_balance_23 : decode cX8_balance 23 = .ok (.aload_n 0, 1) := by decide +kernel
theorem dX8_balance_24 : decode cX8_balance 24 = .ok (.getfield 50, 3) := by decide +kernel
theorem dX8_balance_27 : decode cX8_balance 27 = .ok (.sipush 1792, 3) := by decide +kernel
theorem dX8_balance_30 : decode cX8_balance 30 = .ok (.iconst 3, 1) := by decide +kernel
theorem dX8_balance_31 : decode cX8_balance 31 = .ok (.iload 4, 2) := by decide +kernel
theorem dX8_balance_33 : decode cX8_balance 33 = .ok (.imul, 1) := by decide +kernel
theorem dX8_balance_34 : decode cX8_balance 34 = .ok (.iadd, 1) := by decide +kernel
theorem dX8_balance_35 : decode cX8_balance 35 = .ok (.iconst 2, 1) := by decide +kernel
theorem dX8_balance_36 : decode cX8_balance 36 = .ok (.iadd, 1) := by decide +kernel
theorem dX8_balance_37 : decode cX8_balance 37 = .ok (.iaload, 1) := by decide +kernel
theorem dX8_balance_38 : decode cX8_balance 38 = .ok (.iadd, 1) := by decide +kernel
theorem dX8_balance_39 : decode cX8_balance 39 = .ok (.istore_n 2, 1) := by decide +kernel
theorem dX8_balance_40 : decode cX8_balance 40 = .ok (.aload_n 0, 1) := by decide +kernel
theorem dX8_balance_41 : decode cX8_balance 41 = .ok (.getfield 50, 3) := by decide +kernel
theorem dX8_balance_44 : decode cX8_balance 44 = .ok (.sipush 1792, 3) := by decide +kernel
theorem dX8_balance_47 : decode cX8_balance 47 = .ok (.iconst 3, 1) := by decide +kernel
theorem dX8_balance_48 : decode cX8_balance 48 = .ok (.iload 4, 2) := by decide +kernel
theorem dX8_balance_50 : decode cX8_balance 50 = .ok (.imul, 1) := by decide +kernel
theorem dX8_balance_51 : decode cX8_balance 51 = .ok (.iadd, 1) := by decide +kernel
theorem dX8_balance_52 : decode cX8_balance 52 = .ok (.iconst 2, 1) := by decide +kernel
theorem dX8_balance_53 : decode cX8_balance 53 = .ok (.iadd, 1) := by decide +kernel
theorem dX8_balance_54 : decode cX8_balance 54 = .ok (.iaload, 1) := by decide +kernel
theorem dX8_balance_55 : decode cX8_balance 55 = .ok (.aload_n 0, 1) := by decide +kernel
theorem dX8_balance_56 : decode cX8_balance 56 = .ok (.getfield 50, 3) := by decide +kernel
theorem dX8_balance_59 : decode cX8_balance 59 = .ok (.sipush 1792, 3) := by decide +kernel
theorem dX8_balance_62 : decode cX8_balance 62 = .ok (.iconst 3, 1) := by decide +kernel
theorem dX8_balance_63 : decode cX8_balance 63 = .ok (.iload_n 3, 1) := by decide +kernel
theorem dX8_balance_64 : decode cX8_balance 64 = .ok (.imul, 1) := by decide +kernel
theorem dX8_balance_65 : decode cX8_balance 65 = .ok (.iadd, 1) := by decide +kernel
theorem dX8_balance_66 : decode cX8_balance 66 = .ok (.iconst 2, 1) := by decide +kernel
theorem dX8_balance_67 : decode cX8_balance 67 = .ok (.iadd, 1) := by decide +kernel
theorem dX8_balance_68 : decode cX8_balance 68 = .ok (.iaload, 1) := by decide +kernel
theorem dX8_balance_69 : decode cX8_balance 69 = .ok (.if_icmp .le 8, 3) := by decide +kernel
theorem dX8_balance_72 : decode cX8_balance 72 = .ok (.iload 4, 2) := by decide +kernel
theorem dX8_balance_74 : decode cX8_balance 74 = .ok (.goto 4, 3) := by decide +kernel
theorem dX8_balance_77 : decode cX8_balance 77 = .ok (.iload_n 3, 1) := by decide +kernel
theorem dX8_balance_78 : decode cX8_balance 78 = .ok (.istore_n 3, 1) := by decide +kernel
theorem dX8_balance_79 : decode cX8_balance 79 = .ok (.iinc 4 1, 3) := by decide +kernel
theorem dX8_balance_82 : decode cX8_balance 82 = .ok (.goto (-66), 3) := by decide +kernel
theorem dX8_balance_85 : decode cX8_balance 85 = .ok (.iload_n 2, 1) := by decide +kernel
theorem dX8_balance_86 : decode cX8_balance 86 = .ok (.iload_n 1, 1) := by decide +kernel
theorem dX8_balance_87 : decode cX8_balance 87 = .ok (.idiv, 1) := by decide +kernel
theorem dX8_balance_88 : decode cX8_balance 88 = .ok (.istore 4, 2) := by decide +kernel
theorem dX8_balance_90 : decode cX8_balance 90 = .ok (.aload_n 0, 1) := by decide +kernel
theorem dX8_balance_91 : decode cX8_balance 91 = .ok (.getfield 50, 3) := by decide +kernel
theorem dX8_balance_94 : decode cX8_balance 94 = .ok (.sipush 1792, 3) := by decide +kernel
theorem dX8_balance_97 : decode cX8_balance 97 = .ok (.iconst 3, 1) := by decide +kernel
theorem dX8_balance_98 : decode cX8_balance 98 = .ok (.iload_n 3, 1) := by decide +kernel
theorem dX8_balance_99 : decode cX8_balance 99 = .ok (.imul, 1) := by decide +kernel
theorem dX8_balance_100 : decode cX8_balance 100 = .ok (.iadd, 1) := by decide +kernel
theorem dX8_balance_101 : decode cX8_balance 101 = .ok (.iaload, 1) := by decide +kernel
theorem dX8_balance_102 : decode cX8_balance 102 = .ok (.istore 5, 2) := by decide +kernel
theorem dX8_balance_104 : decode cX8_balance 104 = .ok (.aload_n 0, 1) := by decide +kernel
theorem dX8_balance_105 : decode cX8_balance 105 = .ok (.getfield 50, 3) := by decide +kernel
theorem dX8_balance_108 : decode cX8_balance 108 = .ok (.sipush 1792, 3) := by decide +kernel
theorem dX8_balance_111 : decode cX8_balance 111 = .ok (.iconst 3, 1) := by decide +kernel
theorem dX8_balance_112 : decode cX8_balance 112 = .ok (.iload_n 3, 1) := by decide +kernel
theorem dX8_balance_113 : decode cX8_balance 113 = .ok (.imul, 1) := by decide +kernel
theorem dX8_balance_114 : decode cX8_balance 114 = .ok (.iadd, 1) := by decide +kernel
theorem dX8_balance_115 : decode cX8_balance 115 = .ok (.iconst 1, 1) := by decide +kernel
theorem dX8_balance_116 : decode cX8_balance 116 = .ok (.iadd, 1) := by decide +kernel
theorem dX8_balance_117 : decode cX8_balance 117 = .ok (.iaload, 1) := by decide +kernel
theorem dX8_balance_118 : decode cX8_balance 118 = .ok (.istore 6, 2) := by decide +kernel
theorem dX8_balance_120 : decode cX8_balance 120 = .ok (.aload_n 0, 1) := by decide +kernel
theorem dX8_balance_121 : decode cX8_balance 121 = .ok (.getfield 50, 3) := by decide +kernel
theorem dX8_balance_124 : decode cX8_balance 124 = .ok (.sipush 1792, 3) := by decide +kernel
theorem dX8_balance_127 : decode cX8_balance 127 = .ok (.iconst 3, 1) := by decide +kernel
theorem dX8_balance_128 : decode cX8_balance 128 = .ok (.iload_n 3, 1) := by decide +kernel
theorem dX8_balance_129 : decode cX8_balance 129 = .ok (.imul, 1) := by decide +kernel
theorem dX8_balance_130 : decode cX8_balance 130 = .ok (.iadd, 1) := by decide +kernel
theorem dX8_balance_131 : decode cX8_balance 131 = .ok (.iconst 2, 1) := by decide +kernel
theorem dX8_balance_132 : decode cX8_balance 132 = .ok (.iadd, 1) := by decide +kernel
theorem dX8_balance_133 : decode cX8_balance 133 = .ok (.iaload, 1) := by decide +kernel
theorem dX8_balance_134 : decode cX8_balance 134 = .ok (.iconst 2, 1) := by decide +kernel
theorem dX8_balance_135 : decode cX8_balance 135 = .ok (.iload 4, 2) := by decide +kernel
theorem dX8_balance_137 : decode cX8_balance 137 = .ok (.imul, 1) := by decide +kernel
theorem dX8_balance_138 : decode cX8_balance 138 = .ok (.if_icmp .le 167, 3) := by decide +kernel
theorem dX8_balance_141 : decode cX8_balance 141 = .ok (.iload 6, 2) := by decide +kernel
theorem dX8_balance_143 : decode cX8_balance 143 = .ok (.iload 5, 2) := by decide +kernel
theorem dX8_balance_145 : decode cX8_balance 145 = .ok (.if_icmp .le 160, 3) := by decide +kernel
theorem dX8_balance_148 : decode cX8_balance 148 = .ok (.iload_n 1, 1) := by decide +kernel
theorem dX8_balance_149 : decode cX8_balance 149 = .ok (.bipush 8, 2) := by decide +kernel
theorem dX8_balance_151 : decode cX8_balance 151 = .ok (.if_icmp .ge 154, 3) := by decide +kernel
theorem dX8_balance_154 : decode cX8_balance 154 = .ok (.iconst 3, 1) := by decide +kernel
theorem dX8_balance_155 : decode cX8_balance 155 = .ok (.iload_n 1, 1) := by decide +kernel
theorem dX8_balance_156 : decode cX8_balance 156 = .ok (.imul, 1) := by decide +kernel
theorem dX8_balance_157 : decode cX8_balance 157 = .ok (.iconst 1, 1) := by decide +kernel
theorem dX8_balance_158 : decode cX8_balance 158 = .ok (.isub, 1) := by decide +kernel
theorem dX8_balance_159 : decode cX8_balance 159 = .ok (.istore 7, 2) := by decide +kernel
theorem dX8_balance_161 : decode cX8_balance 161 = .ok (.iload 7, 2) := by decide +kernel
theorem dX8_balance_163 : decode cX8_balance 163 = .ok (.iconst 3, 1) := by decide +kernel
theorem dX8_balance_164 : decode cX8_balance 164 = .ok (.iload_n 3, 1) := by decide +kernel
theorem dX8_balance_165 : decode cX8_balance 165 = .ok (.imul, 1) := by decide +kernel
theorem dX8_balance_166 : decode cX8_balance 166 = .ok (.if_icmp .lt 33, 3) := by decide +kernel
theorem dX8_balance_169 : decode cX8_balance 169 = .ok (.aload_n 0, 1) := by decide +kernel
theorem dX8_balance_170 : decode cX8_balance 170 = .ok (.getfield 50, 3) := by decide +kernel
theorem dX8_balance_173 : decode cX8_balance 173 = .ok (.sipush 1792, 3) := by decide +kernel
theorem dX8_balance_176 : decode cX8_balance 176 = .ok (.iload 7, 2) := by decide +kernel
theorem dX8_balance_178 : decode cX8_balance 178 = .ok (.iadd, 1) := by decide +kernel
theorem dX8_balance_179 : decode cX8_balance 179 = .ok (.iconst 3, 1) := by decide +kernel
theorem dX8_balance_180 : decode cX8_balance 180 = .ok (.iadd, 1) := by decide +kernel
theorem dX8_balance_181 : decode cX8_balance 181 = .ok (.aload_n 0, 1) := by decide +kernel
theorem dX8_balance_182 : decode cX8_balance 182 = .ok (.getfield 50, 3) := by decide +kernel
theorem dX8_balance_185 : decode cX8_balance 185 = .ok (.sipush 1792, 3) := by decide +kernel
theorem dX8_balance_188 : decode cX8_balance 188 = .ok (.iload 7, 2) := by decide +kernel
theorem dX8_balance_190 : decode cX8_balance 190 = .ok (.iadd, 1) := by decide +kernel
theorem dX8_balance_191 : decode cX8_balance 191 = .ok (.iaload, 1) := by decide +kernel
theorem dX8_balance_192 : decode cX8_balance 192 = .ok (.iastore, 1) := by decide +kernel
theorem dX8_balance_193 : decode cX8_balance 193 = .ok (.iinc 7 (-1), 3) := by decide +kernel
theorem dX8_balance_196 : decode cX8_balance 196 = .ok (.goto (-35), 3) := by decide +kernel
theorem dX8_balance_199 : decode cX8_balance 199 = .ok (.iload 6, 2) := by decide +kernel
theorem dX8_balance_201 : decode cX8_balance 201 = .ok (.iload 5, 2) := by decide +kernel
theorem dX8_balance_203 : decode cX8_balance 203 = .ok (.isub, 1) := by decide +kernel
theorem dX8_balance_204 : decode cX8_balance 204 = .ok (.iconst 1, 1) := by decide +kernel
theorem dX8_balance_205 : decode cX8_balance 205 = .ok (.iadd, 1) := by decide +kernel
theorem dX8_balance_206 : decode cX8_balance 206 = .ok (.iconst 2, 1) := by decide +kernel
theorem dX8_balance_207 : decode cX8_balance 207 = .ok (.idiv, 1) := by decide +kernel
theorem dX8_balance_208 : decode cX8_balance 208 = .ok (.istore 7, 2) := by decide +kernel
theorem dX8_balance_210 : decode cX8_balance 210 = .ok (.aload_n 0, 1) := by decide +kernel
theorem dX8_balance_211 : decode cX8_balance 211 = .ok (.getfield 50, 3) := by decide +kernel
theorem dX8_balance_214 : decode cX8_balance 214 = .ok (.sipush 1792, 3) := by decide +kernel
theorem dX8_balance_217 : decode cX8_balance 217 = .ok (.iconst 3, 1) := by decide +kernel
theorem dX8_balance_218 : decode cX8_balance 218 = .ok (.iload_n 3, 1) := by decide +kernel
theorem dX8_balance_219 : decode cX8_balance 219 = .ok (.imul, 1) := by decide +kernel
theorem dX8_balance_220 : decode cX8_balance 220 = .ok (.iadd, 1) := by decide +kernel
theorem dX8_balance_221 : decode cX8_balance 221 = .ok (.iconst 1, 1) := by decide +kernel
theorem dX8_balance_222 : decode cX8_balance 222 = .ok (.iadd, 1) := by decide +kernel
theorem dX8_balance_223 : decode cX8_balance 223 = .ok (.iload 5, 2) := by decide +kernel
theorem dX8_balance_225 : decode cX8_balance 225 = .ok (.iload 7, 2) := by decide +kernel
theorem dX8_balance_227 : decode cX8_balance 227 = .ok (.iadd, 1) := by decide +kernel
theorem dX8_balance_228 : decode cX8_balance 228 = .ok (.iconst 1, 1) := by decide +kernel
theorem dX8_balance_229 : decode cX8_balance 229 = .ok (.isub, 1) := by decide +kernel
theorem dX8_balance_230 : decode cX8_balance 230 = .ok (.iastore, 1) := by decide +kernel
theorem dX8_balance_231 : decode cX8_balance 231 = .ok (.aload_n 0, 1) := by decide +kernel
theorem dX8_balance_232 : decode cX8_balance 232 = .ok (.getfield 50, 3) := by decide +kernel
theorem dX8_balance_235 : decode cX8_balance 235 = .ok (.sipush 1792, 3) := by decide +kernel
theorem dX8_balance_238 : decode cX8_balance 238 = .ok (.iconst 3, 1) := by decide +kernel
theorem dX8_balance_239 : decode cX8_balance 239 = .ok (.iload_n 3, 1) := by decide +kernel
theorem dX8_balance_240 : decode cX8_balance 240 = .ok (.imul, 1) := by decide +kernel
theorem dX8_balance_241 : decode cX8_balance 241 = .ok (.iadd, 1) := by decide +kernel
theorem dX8_balance_242 : decode cX8_balance 242 = .ok (.iconst 2, 1) := by decide +kernel
theorem dX8_balance_243 : decode cX8_balance 243 = .ok (.iadd, 1) := by decide +kernel
theorem dX8_balance_244 : decode cX8_balance 244 = .ok (.iconst 0, 1) := by decide +kernel
theorem dX8_balance_245 : decode cX8_balance 245 = .ok (.iastore, 1) := by decide +kernel
theorem dX8_balance_246 : decode cX8_balance 246 = .ok (.aload_n 0, 1) := by decide +kernel
theorem dX8_balance_247 : decode cX8_balance 247 = .ok (.getfield 50, 3) := by decide +kernel
theorem dX8_balance_250 : decode cX8_balance 250 = .ok (.sipush 1792, 3) := by decide +kernel
theorem dX8_balance_253 : decode cX8_balance 253 = .ok (.iconst 3, 1) := by decide +kernel
theorem dX8_balance_254 : decode cX8_balance 254 = .ok (.iload_n 3, 1) := by decide +kernel
theorem dX8_balance_255 : decode cX8_balance 255 = .ok (.imul, 1) := by decide +kernel
theorem dX8_balance_256 : decode cX8_balance 256 = .ok (.iadd, 1) := by decide +kernel
theorem dX8_balance_257 : decode cX8_balance 257 = .ok (.iconst 3, 1) := by decide +kernel
theorem dX8_balance_258 : decode cX8_balance 258 = .ok (.iadd, 1) := by decide +kernel
theorem dX8_balance_259 : decode cX8_balance 259 = .ok (.iload 5, 2) := by decide +kernel
theorem dX8_balance_261 : decode cX8_balance 261 = .ok (.iload 7, 2) := by decide +kernel
theorem dX8_balance_263 : decode cX8_balance 263 = .ok (.iadd, 1) := by decide +kernel
theorem dX8_balance_264 : decode cX8_balance 264 = .ok (.iastore, 1) := by decide +kernel
theorem dX8_balance_265 : decode cX8_balance 265 = .ok (.aload_n 0, 1) := by decide +kernel
theorem dX8_balance_266 : decode cX8_balance 266 = .ok (.getfield 50, 3) := by decide +kernel
theorem dX8_balance_269 : decode cX8_balance 269 = .ok (.sipush 1792, 3) := by decide +kernel
theorem dX8_balance_272 : decode cX8_balance 272 = .ok (.iconst 3, 1) := by decide +kernel
theorem dX8_balance_273 : decode cX8_balance 273 = .ok (.iload_n 3, 1) := by decide +kernel
theorem dX8_balance_274 : decode cX8_balance 274 = .ok (.imul, 1) := by decide +kernel
theorem dX8_balance_275 : decode cX8_balance 275 = .ok (.iadd, 1) := by decide +kernel
theorem dX8_balance_276 : decode cX8_balance 276 = .ok (.iconst 5, 1) := by decide +kernel
theorem dX8_balance_277 : decode cX8_balance 277 = .ok (.iadd, 1) := by decide +kernel
theorem dX8_balance_278 : decode cX8_balance 278 = .ok (.iconst 0, 1) := by decide +kernel
theorem dX8_balance_279 : decode cX8_balance 279 = .ok (.iastore, 1) := by decide +kernel
theorem dX8_balance_280 : decode cX8_balance 280 = .ok (.aload_n 0, 1) := by decide +kernel
theorem dX8_balance_281 : decode cX8_balance 281 = .ok (.getfield 50, 3) := by decide +kernel
theorem dX8_balance_284 : decode cX8_balance 284 = .ok (.sipush 1818, 3) := by decide +kernel
theorem dX8_balance_287 : decode cX8_balance 287 = .ok (.dup2, 1) := by decide +kernel
theorem dX8_balance_288 : decode cX8_balance 288 = .ok (.iaload, 1) := by decide +kernel
theorem dX8_balance_289 : decode cX8_balance 289 = .ok (.iconst 1, 1) := by decide +kernel
theorem dX8_balance_290 : decode cX8_balance 290 = .ok (.iadd, 1) := by decide +kernel
theorem dX8_balance_291 : decode cX8_balance 291 = .ok (.iastore, 1) := by decide +kernel
theorem dX8_balance_292 : decode cX8_balance 292 = .ok (.aload_n 0, 1) := by decide +kernel
theorem dX8_balance_293 : decode cX8_balance 293 = .ok (.getfield 50, 3) := by decide +kernel
theorem dX8_balance_296 : decode cX8_balance 296 = .ok (.sipush 1822, 3) := by decide +kernel
theorem dX8_balance_299 : decode cX8_balance 299 = .ok (.dup2, 1) := by decide +kernel
theorem dX8_balance_300 : decode cX8_balance 300 = .ok (.iaload, 1) := by decide +kernel
theorem dX8_balance_301 : decode cX8_balance 301 = .ok (.iconst 1, 1) := by decide +kernel
theorem dX8_balance_302 : decode cX8_balance 302 = .ok (.iadd, 1) := by decide +kernel
theorem dX8_balance_303 : decode cX8_balance 303 = .ok (.iastore, 1) := by decide +kernel
theorem dX8_balance_304 : decode cX8_balance 304 = .ok (.return_, 1) := by decide +kernel
theorem dX8_balance_305 : decode cX8_balance 305 = .ok (.iconst 0, 1) := by decide +kernel
theorem dX8_balance_306 : decode cX8_balance 306 = .ok (.istore 7, 2) := by decide +kernel
theorem dX8_balance_308 : decode cX8_balance 308 = .ok (.iload 7, 2) := by decide +kernel
theorem dX8_balance_310 : decode cX8_balance 310 = .ok (.iconst 1, 1) := by decide +kernel
theorem dX8_balance_311 : decode cX8_balance 311 = .ok (.iadd, 1) := by decide +kernel
theorem dX8_balance_312 : decode cX8_balance 312 = .ok (.iload_n 1, 1) := by decide +kernel
theorem dX8_balance_313 : decode cX8_balance 313 = .ok (.if_icmp .ge 166, 3) := by decide +kernel
theorem dX8_balance_316 : decode cX8_balance 316 = .ok (.aload_n 0, 1) := by decide +kernel
theorem dX8_balance_317 : decode cX8_balance 317 = .ok (.getfield 50, 3) := by decide +kernel
theorem dX8_balance_320 : decode cX8_balance 320 = .ok (.sipush 1792, 3) := by decide +kernel
theorem dX8_balance_323 : decode cX8_balance 323 = .ok (.iconst 3, 1) := by decide +kernel
theorem dX8_balance_324 : decode cX8_balance 324 = .ok (.iload 7, 2) := by decide +kernel
theorem dX8_balance_326 : decode cX8_balance 326 = .ok (.imul, 1) := by decide +kernel
theorem dX8_balance_327 : decode cX8_balance 327 = .ok (.iadd, 1) := by decide +kernel
theorem dX8_balance_328 : decode cX8_balance 328 = .ok (.iconst 2, 1) := by decide +kernel
theorem dX8_balance_329 : decode cX8_balance 329 = .ok (.iadd, 1) := by decide +kernel
theorem dX8_balance_330 : decode cX8_balance 330 = .ok (.iaload, 1) := by decide +kernel
theorem dX8_balance_331 : decode cX8_balance 331 = .ok (.aload_n 0, 1) := by decide +kernel
theorem dX8_balance_332 : decode cX8_balance 332 = .ok (.getfield 50, 3) := by decide +kernel
theorem dX8_balance_335 : decode cX8_balance 335 = .ok (.sipush 1792, 3) := by decide +kernel
theorem dX8_balance_338 : decode cX8_balance 338 = .ok (.iconst 3, 1) := by decide +kernel
theorem dX8_balance_339 : decode cX8_balance 339 = .ok (.iload 7, 2) := by decide +kernel
theorem dX8_balance_341 : decode cX8_balance 341 = .ok (.imul, 1) := by decide +kernel
theorem dX8_balance_342 : decode cX8_balance 342 = .ok (.iadd, 1) := by decide +kernel
theorem dX8_balance_343 : decode cX8_balance 343 = .ok (.iconst 5, 1) := by decide +kernel
theorem dX8_balance_344 : decode cX8_balance 344 = .ok (.iadd, 1) := by decide +kernel
theorem dX8_balance_345 : decode cX8_balance 345 = .ok (.iaload, 1) := by decide +kernel
theorem dX8_balance_346 : decode cX8_balance 346 = .ok (.iadd, 1) := by decide +kernel
theorem dX8_balance_347 : decode cX8_balance 347 = .ok (.iload 4, 2) := by decide +kernel
theorem dX8_balance_349 : decode cX8_balance 349 = .ok (.iconst 2, 1) := by decide +kernel
theorem dX8_balance_350 : decode cX8_balance 350 = .ok (.idiv, 1) := by decide +kernel
theorem dX8_balance_351 : decode cX8_balance 351 = .ok (.if_icmp .ge 122, 3) := by decide +kernel
theorem dX8_balance_354 : decode cX8_balance 354 = .ok (.aload_n 0, 1) := by decide +kernel
theorem dX8_balance_355 : decode cX8_balance 355 = .ok (.getfield 50, 3) := by decide +kernel
theorem dX8_balance_358 : decode cX8_balance 358 = .ok (.sipush 1792, 3) := by decide +kernel
theorem dX8_balance_361 : decode cX8_balance 361 = .ok (.iconst 3, 1) := by decide +kernel
theorem dX8_balance_362 : decode cX8_balance 362 = .ok (.iload 7, 2) := by decide +kernel
theorem dX8_balance_364 : decode cX8_balance 364 = .ok (.imul, 1) := by decide +kernel
theorem dX8_balance_365 : decode cX8_balance 365 = .ok (.iadd, 1) := by decide +kernel
theorem dX8_balance_366 : decode cX8_balance 366 = .ok (.iconst 1, 1) := by decide +kernel
theorem dX8_balance_367 : decode cX8_balance 367 = .ok (.iadd, 1) := by decide +kernel
theorem dX8_balance_368 : decode cX8_balance 368 = .ok (.aload_n 0, 1) := by decide +kernel
theorem dX8_balance_369 : decode cX8_balance 369 = .ok (.getfield 50, 3) := by decide +kernel
theorem dX8_balance_372 : decode cX8_balance 372 = .ok (.sipush 1792, 3) := by decide +kernel
theorem dX8_balance_375 : decode cX8_balance 375 = .ok (.iconst 3, 1) := by decide +kernel
theorem dX8_balance_376 : decode cX8_balance 376 = .ok (.iload 7, 2) := by decide +kernel
theorem dX8_balance_378 : decode cX8_balance 378 = .ok (.imul, 1) := by decide +kernel
theorem dX8_balance_379 : decode cX8_balance 379 = .ok (.iadd, 1) := by decide +kernel
theorem dX8_balance_380 : decode cX8_balance 380 = .ok (.iconst 4, 1) := by decide +kernel
theorem dX8_balance_381 : decode cX8_balance 381 = .ok (.iadd, 1) := by decide +kernel
theorem dX8_balance_382 : decode cX8_balance 382 = .ok (.iaload, 1) := by decide +kernel
theorem dX8_balance_383 : decode cX8_balance 383 = .ok (.iastore, 1) := by decide +kernel
theorem dX8_balance_384 : decode cX8_balance 384 = .ok (.aload_n 0, 1) := by decide +kernel
theorem dX8_balance_385 : decode cX8_balance 385 = .ok (.getfield 50, 3) := by decide +kernel
theorem dX8_balance_388 : decode cX8_balance 388 = .ok (.sipush 1792, 3) := by decide +kernel
theorem dX8_balance_391 : decode cX8_balance 391 = .ok (.iconst 3, 1) := by decide +kernel
theorem dX8_balance_392 : decode cX8_balance 392 = .ok (.iload 7, 2) := by decide +kernel
theorem dX8_balance_394 : decode cX8_balance 394 = .ok (.imul, 1) := by decide +kernel
theorem dX8_balance_395 : decode cX8_balance 395 = .ok (.iadd, 1) := by decide +kernel
theorem dX8_balance_396 : decode cX8_balance 396 = .ok (.iconst 2, 1) := by decide +kernel
theorem dX8_balance_397 : decode cX8_balance 397 = .ok (.iadd, 1) := by decide +kernel
theorem dX8_balance_398 : decode cX8_balance 398 = .ok (.iconst 0, 1) := by decide +kernel
theorem dX8_balance_399 : decode cX8_balance 399 = .ok (.iastore, 1) := by decide +kernel
theorem dX8_balance_400 : decode cX8_balance 400 = .ok (.iconst 3, 1) := by decide +kernel
theorem dX8_balance_401 : decode cX8_balance 401 = .ok (.iload 7, 2) := by decide +kernel
theorem dX8_balance_403 : decode cX8_balance 403 = .ok (.imul, 1) := by decide +kernel
theorem dX8_balance_404 : decode cX8_balance 404 = .ok (.iconst 3, 1) := by decide +kernel
theorem dX8_balance_405 : decode cX8_balance 405 = .ok (.iadd, 1) := by decide +kernel
theorem dX8_balance_406 : decode cX8_balance 406 = .ok (.istore 8, 2) := by decide +kernel
theorem dX8_balance_408 : decode cX8_balance 408 = .ok (.iload 8, 2) := by decide +kernel
theorem dX8_balance_410 : decode cX8_balance 410 = .ok (.iconst 3, 1) := by decide +kernel
theorem dX8_balance_411 : decode cX8_balance 411 = .ok (.iload_n 1, 1) := by decide +kernel
theorem dX8_balance_412 : decode cX8_balance 412 = .ok (.imul, 1) := by decide +kernel
theorem dX8_balance_413 : decode cX8_balance 413 = .ok (.iconst 3, 1) := by decide +kernel
theorem dX8_balance_414 : decode cX8_balance 414 = .ok (.isub, 1) := by decide +kernel
theorem dX8_balance_415 : decode cX8_balance 415 = .ok (.if_icmp .ge 33, 3) := by decide +kernel
theorem dX8_balance_418 : decode cX8_balance 418 = .ok (.aload_n 0, 1) := by decide +kernel
theorem dX8_balance_419 : decode cX8_balance 419 = .ok (.getfield 50, 3) := by decide +kernel
theorem dX8_balance_422 : decode cX8_balance 422 = .ok (.sipush 1792, 3) := by decide +kernel
theorem dX8_balance_425 : decode cX8_balance 425 = .ok (.iload 8, 2) := by decide +kernel
theorem dX8_balance_427 : decode cX8_balance 427 = .ok (.iadd, 1) := by decide +kernel
theorem dX8_balance_428 : decode cX8_balance 428 = .ok (.aload_n 0, 1) := by decide +kernel
theorem dX8_balance_429 : decode cX8_balance 429 = .ok (.getfield 50, 3) := by decide +kernel
theorem dX8_balance_432 : decode cX8_balance 432 = .ok (.sipush 1792, 3) := by decide +kernel
theorem dX8_balance_435 : decode cX8_balance 435 = .ok (.iload 8, 2) := by decide +kernel
theorem dX8_balance_437 : decode cX8_balance 437 = .ok (.iadd, 1) := by decide +kernel
theorem dX8_balance_438 : decode cX8_balance 438 = .ok (.iconst 3, 1) := by decide +kernel
theorem dX8_balance_439 : decode cX8_balance 439 = .ok (.iadd, 1) := by decide +kernel
theorem dX8_balance_440 : decode cX8_balance 440 = .ok (.iaload, 1) := by decide +kernel
theorem dX8_balance_441 : decode cX8_balance 441 = .ok (.iastore, 1) := by decide +kernel
theorem dX8_balance_442 : decode cX8_balance 442 = .ok (.iinc 8 1, 3) := by decide +kernel
theorem dX8_balance_445 : decode cX8_balance 445 = .ok (.goto (-37), 3) := by decide +kernel
theorem dX8_balance_448 : decode cX8_balance 448 = .ok (.aload_n 0, 1) := by decide +kernel
theorem dX8_balance_449 : decode cX8_balance 449 = .ok (.getfield 50, 3) := by decide +kernel
theorem dX8_balance_452 : decode cX8_balance 452 = .ok (.sipush 1818, 3) := by decide +kernel
theorem dX8_balance_455 : decode cX8_balance 455 = .ok (.dup2, 1) := by decide +kernel
theorem dX8_balance_456 : decode cX8_balance 456 = .ok (.iaload, 1) := by decide +kernel
theorem dX8_balance_457 : decode cX8_balance 457 = .ok (.iconst 1, 1) := by decide +kernel
theorem dX8_balance_458 : decode cX8_balance 458 = .ok (.isub, 1) := by decide +kernel
theorem dX8_balance_459 : decode cX8_balance 459 = .ok (.iastore, 1) := by decide +kernel
theorem dX8_balance_460 : decode cX8_balance 460 = .ok (.aload_n 0, 1) := by decide +kernel
theorem dX8_balance_461 : decode cX8_balance 461 = .ok (.getfield 50, 3) := by decide +kernel
theorem dX8_balance_464 : decode cX8_balance 464 = .ok (.sipush 1823, 3) := by decide +kernel
theorem dX8_balance_467 : decode cX8_balance 467 = .ok (.dup2, 1) := by decide +kernel
theorem dX8_balance_468 : decode cX8_balance 468 = .ok (.iaload, 1) := by decide +kernel
theorem dX8_balance_469 : decode cX8_balance 469 = .ok (.iconst 1, 1) := by decide +kernel
theorem dX8_balance_470 : decode cX8_balance 470 = .ok (.iadd, 1) := by decide +kernel
theorem dX8_balance_471 : decode cX8_balance 471 = .ok (.iastore, 1) := by decide +kernel
theorem dX8_balance_472 : decode cX8_balance 472 = .ok (.return_, 1) := by decide +kernel
theorem dX8_balance_473 : decode cX8_balance 473 = .ok (.iinc 7 1, 3) := by decide +kernel
theorem dX8_balance_476 : decode cX8_balance 476 = .ok (.goto (-168), 3) := by decide +kernel
theorem dX8_balance_479 : decode cX8_balance 479 = .ok (.return_, 1) := by decide +kernel
theorem dX8_strip_0 : decode cX8_strip 0 = .ok (.iload_n 1, 1) := by decide +kernel
theorem dX8_strip_1 : decode cX8_strip 1 = .ok (.iconst 0, 1) := by decide +kernel
theorem dX8_strip_2 : decode cX8_strip 2 = .ok (.aload_n 0, 1) := by decide +kernel
theorem dX8_strip_3 : decode cX8_strip 3 = .ok (.getfield 50, 3) := by decide +kernel
theorem dX8_strip_6 : decode cX8_strip 6 = .ok (.sipush 1818, 3) := by decide +kernel
theorem dX8_strip_9 : decode cX8_strip 9 = .ok (.iaload, 1) := by decide +kernel
theorem dX8_strip_10 : decode cX8_strip 10 = .ok (.iconst 1, 1) := by decide +kernel
theorem dX8_strip_11 : decode cX8_strip 11 = .ok (.isub, 1) := by decide +kernel
theorem dX8_strip_12 : decode cX8_strip 12 = .ok (.invokestatic 74, 3) := by decide +kernel
theorem dX8_strip_15 : decode cX8_strip 15 = .ok (.ifCond .ne 5, 3) := by decide +kernel
theorem dX8_strip_18 : decode cX8_strip 18 = .ok (.iconst (-1), 1) := by decide +kernel
theorem dX8_strip_19 : decode cX8_strip 19 = .ok (.ireturn, 1) := by decide +kernel
theorem dX8_strip_20 : decode cX8_strip 20 = .ok (.iload_n 2, 1) := by decide +kernel
theorem dX8_strip_21 : decode cX8_strip 21 = .ok (.iconst 0, 1) := by decide +kernel
theorem dX8_strip_22 : decode cX8_strip 22 = .ok (.iconst 2, 1) := by decide +kernel
theorem dX8_strip_23 : decode cX8_strip 23 = .ok (.invokestatic 74, 3) := by decide +kernel
theorem dX8_strip_26 : decode cX8_strip 26 = .ok (.ifCond .eq 20, 3) := by decide +kernel
theorem dX8_strip_29 : decode cX8_strip 29 = .ok (.aload_n 0, 1) := by decide +kernel
theorem dX8_strip_30 : decode cX8_strip 30 = .ok (.getfield 50, 3) := by decide +kernel
theorem dX8_strip_33 : decode cX8_strip 33 = .ok (.sipush 1792, 3) := by decide +kernel
theorem dX8_strip_36 : decode cX8_strip 36 = .ok (.iconst 3, 1) := by decide +kernel
theorem dX8_strip_37 : decode cX8_strip 37 = .ok (.iload_n 1, 1) := by decide +kernel
theorem dX8_strip_38 : decode cX8_strip 38 = .ok (.imul, 1) := by decide +kernel
theorem dX8_strip_39 : decode cX8_strip 39 = .ok (.iadd, 1) := by decide +kernel
theorem dX8_strip_40 : decode cX8_strip 40 = .ok (.iload_n 2, 1) := by decide +kernel
theorem dX8_strip_41 : decode cX8_strip 41 = .ok (.iadd, 1) := by decide +kernel
theorem dX8_strip_42 : decode cX8_strip 42 = .ok (.iaload, 1) := by decide +kernel
theorem dX8_strip_43 : decode cX8_strip 43 = .ok (.goto 5, 3) := by decide +kernel
theorem dX8_strip_46 : decode cX8_strip 46 = .ok (.bipush (-2), 2) := by decide +kernel
theorem dX8_strip_48 : decode cX8_strip 48 = .ok (.ireturn, 1) := by decide +kernel
theorem dX8_about_0 : decode cX8_about 0 = .ok (.aload_n 0, 1) := by decide +kernel
theorem dX8_about_1 : decode cX8_about 1 = .ok (.iload_n 1, 1) := by decide +kernel
theorem dX8_about_2 : decode cX8_about 2 = .ok (.invokevirtual 84, 3) := by decide +kernel
theorem dX8_about_5 : decode cX8_about 5 = .ok (.ifCond .ne 5, 3) := by decide +kernel
theorem dX8_about_8 : decode cX8_about 8 = .ok (.iconst (-1), 1) := by decide +kernel
theorem dX8_about_9 : decode cX8_about 9 = .ok (.ireturn, 1) := by decide +kernel
theorem dX8_about_10 : decode cX8_about 10 = .ok (.iload_n 2, 1) := by decide +kernel
theorem dX8_about_11 : decode cX8_about 11 = .ok (.tableswitch 123 0 7 #[45, 54, 65, 76, 87, 98, 105, 112], 45) := by decide +kernel
theorem dX8_about_56 : decode cX8_about 56 = .ok (.aload_n 0, 1) := by decide +kernel
theorem dX8_about_57 : decode cX8_about 57 = .ok (.getfield 50, 3) := by decide +kernel
theorem dX8_about_60 : decode cX8_about 60 = .ok (.iconst 0, 1) := by decide +kernel
theorem dX8_about_61 : decode cX8_about 61 = .ok (.iload_n 1, 1) := by decide +kernel
theorem dX8_about_62 : decode cX8_about 62 = .ok (.iadd, 1) := by decide +kernel
theorem dX8_about_63 : decode cX8_about 63 = .ok (.iaload, 1) := by decide +kernel
theorem dX8_about_64 : decode cX8_about 64 = .ok (.ireturn, 1) := by decide +kernel
theorem dX8_about_65 : decode cX8_about 65 = .ok (.aload_n 0, 1) := by decide +kernel
theorem dX8_about_66 : decode cX8_about 66 = .ok (.getfield 50, 3) := by decide +kernel
theorem dX8_about_69 : decode cX8_about 69 = .ok (.sipush 256, 3) := by decide +kernel
theorem dX8_about_72 : decode cX8_about 72 = .ok (.iload_n 1, 1) := by decide +kernel
theorem dX8_about_73 : decode cX8_about 73 = .ok (.iadd, 1) := by decide +kernel
theorem dX8_about_74 : decode cX8_about 74 = .ok (.iaload, 1) := by decide +kernel
theorem dX8_about_75 : decode cX8_about 75 = .ok (.ireturn, 1) := by decide +kernel
theorem dX8_about_76 : decode cX8_about 76 = .ok (.aload_n 0, 1) := by decide +kernel
theorem dX8_about_77 : decode cX8_about 77 = .ok (.getfield 50, 3) := by decide +kernel
theorem dX8_about_80 : decode cX8_about 80 = .ok (.sipush 512, 3) := by decide +kernel
theorem dX8_about_83 : decode cX8_about 83 = .ok (.iload_n 1, 1) := by decide +kernel
theorem dX8_about_84 : decode cX8_about 84 = .ok (.iadd, 1) := by decide +kernel
theorem dX8_about_85 : decode cX8_about 85 = .ok (.iaload, 1) := by decide +kernel
theorem dX8_about_86 : decode cX8_about 86 = .ok (.ireturn, 1) := by decide +kernel
theorem dX8_about_87 : decode cX8_about 87 = .ok (.aload_n 0, 1) := by decide +kernel
theorem dX8_about_88 : decode cX8_about 88 = .ok (.getfield 50, 3) := by decide +kernel
theorem dX8_about_91 : decode cX8_about 91 = .ok (.sipush 768, 3) := by decide +kernel
theorem dX8_about_94 : decode cX8_about 94 = .ok (.iload_n 1, 1) := by decide +kernel
theorem dX8_about_95 : decode cX8_about 95 = .ok (.iadd, 1) := by decide +kernel
theorem dX8_about_96 : decode cX8_about 96 = .ok (.iaload, 1) := by decide +kernel
theorem dX8_about_97 : decode cX8_about 97 = .ok (.ireturn, 1) := by decide +kernel
theorem dX8_about_98 : decode cX8_about 98 = .ok (.aload_n 0, 1) := by decide +kernel
theorem dX8_about_99 : decode cX8_about 99 = .ok (.getfield 50, 3) := by decide +kernel
theorem dX8_about_102 : decode cX8_about 102 = .ok (.sipush 1024, 3) := by decide +kernel
theorem dX8_about_105 : decode cX8_about 105 = .ok (.iload_n 1, 1) := by decide +kernel
theorem dX8_about_106 : decode cX8_about 106 = .ok (.iadd, 1) := by decide +kernel
theorem dX8_about_107 : decode cX8_about 107 = .ok (.iaload, 1) := by decide +kernel
theorem dX8_about_108 : decode cX8_about 108 = .ok (.ireturn, 1) := by decide +kernel
theorem dX8_about_109 : decode cX8_about 109 = .ok (.aload_n 0, 1) := by decide +kernel
theorem dX8_about_110 : decode cX8_about 110 = .ok (.getfield 19, 3) := by decide +kernel
theorem dX8_about_113 : decode cX8_about 113 = .ok (.iload_n 1, 1) := by decide +kernel
theorem dX8_about_114 : decode cX8_about 114 = .ok (.iaload, 1) := by decide +kernel
theorem dX8_about_115 : decode cX8_about 115 = .ok (.ireturn, 1) := by decide +kernel
theorem dX8_about_116 : decode cX8_about 116 = .ok (.aload_n 0, 1) := by decide +kernel
theorem dX8_about_117 : decode cX8_about 117 = .ok (.getfield 23, 3) := by decide +kernel
theorem dX8_about_120 : decode cX8_about 120 = .ok (.iload_n 1, 1) := by decide +kernel
theorem dX8_about_121 : decode cX8_about 121 = .ok (.iaload, 1) := by decide +kernel
theorem dX8_about_122 : decode cX8_about 122 = .ok (.ireturn, 1) := by decide +kernel
theorem dX8_about_123 : decode cX8_about 123 = .ok (.aload_n 0, 1) := by decide +kernel
theorem dX8_about_124 : decode cX8_about 124 = .ok (.getfield 50, 3) := by decide +kernel
theorem dX8_about_127 : decode cX8_about 127 = .ok (.sipush 1280, 3) := by decide +kernel
theorem dX8_about_130 : decode cX8_about 130 = .ok (.iload_n 1, 1) := by decide +kernel
theorem dX8_about_131 : decode cX8_about 131 = .ok (.iadd, 1) := by decide +kernel
theorem dX8_about_132 : decode cX8_about 132 = .ok (.iaload, 1) := by decide +kernel
theorem dX8_about_133 : decode cX8_about 133 = .ok (.ireturn, 1) := by decide +kernel
theorem dX8_about_134 : decode cX8_about 134 = .ok (.bipush (-2), 2) := by decide +kernel
theorem dX8_about_136 : decode cX8_about 136 = .ok (.ireturn, 1) := by decide +kernel
theorem dX8_many_0 : decode cX8_many 0 = .ok (.iload_n 1, 1) := by decide +kernel
theorem dX8_many_1 : decode cX8_many 1 = .ok (.iconst 0, 1) := by decide +kernel
theorem dX8_many_2 : decode cX8_many 2 = .ok (.iconst 5, 1) := by decide +kernel
theorem dX8_many_3 : decode cX8_many 3 = .ok (.invokestatic 74, 3) := by decide +kernel
theorem dX8_many_6 : decode cX8_many 6 = .ok (.ifCond .ne 6, 3) := by decide +kernel
theorem dX8_many_9 : decode cX8_many 9 = .ok (.bipush (-2), 2) := by decide +kernel
theorem dX8_many_11 : decode cX8_many 11 = .ok (.ireturn, 1) := by decide +kernel
theorem dX8_many_12 : decode cX8_many 12 = .ok (.iconst 0, 1) := by decide +kernel
theorem dX8_many_13 : decode cX8_many 13 = .ok (.istore_n 2, 1) := by decide +kernel
theorem dX8_many_14 : decode cX8_many 14 = .ok (.iconst 0, 1) := by decide +kernel
theorem dX8_many_15 : decode cX8_many 15 = .ok (.istore_n 3, 1) := by decide +kernel
theorem dX8_many_16 : decode cX8_many 16 = .ok (.iload_n 3, 1) := by decide +kernel
theorem dX8_many_17 : decode cX8_many 17 = .ok (.aload_n 0, 1) := by decide +kernel
theorem dX8_many_18 : decode cX8_many 18 = .ok (.getfield 16, 3) := by decide +kernel
theorem dX8_many_21 : decode cX8_many 21 = .ok (.if_icmp .ge 29, 3) := by decide +kernel
theorem dX8_many_24 : decode cX8_many 24 = .ok (.iload_n 2, 1) := by decide +kernel
theorem dX8_many_25 : decode cX8_many 25 = .ok (.aload_n 0, 1) := by decide +kernel
theorem dX8_many_26 : decode cX8_many 26 = .ok (.getfield 50, 3) := by decide +kernel
theorem dX8_many_29 : decode cX8_many 29 = .ok (.iconst 0, 1) := by decide +kernel
theorem dX8_many_30 : decode cX8_many 30 = .ok (.iload_n 3, 1) := by decide +kernel
theorem dX8_many_31 : decode cX8_many 31 = .ok (.iadd, 1) := by decide +kernel
theorem dX8_many_32 : decode cX8_many 32 = .ok (.iaload, 1) := by decide +kernel
theorem dX8_many_33 : decode cX8_many 33 = .ok (.iload_n 1, 1) := by decide +kernel
theorem dX8_many_34 : decode cX8_many 34 = .ok (.if_icmp .ne 7, 3) := by decide +kernel
theorem dX8_many_37 : decode cX8_many 37 = .ok (.iconst 1, 1) := by decide +kernel
theorem dX8_many_38 : decode cX8_many 38 = .ok (.goto 4, 3) := by decide +kernel
theorem dX8_many_41 : decode cX8_many 41 = .ok (.iconst 0, 1) := by decide +kernel
theorem dX8_many_42 : decode cX8_many 42 = .ok (.iadd, 1) := by decide +kernel
theorem dX8_many_43 : decode cX8_many 43 = .ok (.istore_n 2, 1) := by decide +kernel
theorem dX8_many_44 : decode cX8_many 44 = .ok (.iinc 3 1, 3) := by decide +kernel
theorem dX8_many_47 : decode cX8_many 47 = .ok (.goto (-31), 3) := by decide +kernel
theorem dX8_many_50 : decode cX8_many 50 = .ok (.iload_n 2, 1) := by decide +kernel
theorem dX8_many_51 : decode cX8_many 51 = .ok (.ireturn, 1) := by decide +kernel
theorem dX8_sum_0 : decode cX8_sum 0 = .ok (.iconst 0, 1) := by decide +kernel
theorem dX8_sum_1 : decode cX8_sum 1 = .ok (.istore_n 2, 1) := by decide +kernel
theorem dX8_sum_2 : decode cX8_sum 2 = .ok (.iconst 0, 1) := by decide +kernel
theorem dX8_sum_3 : decode cX8_sum 3 = .ok (.istore_n 3, 1) := by decide +kernel
theorem dX8_sum_4 : decode cX8_sum 4 = .ok (.iload_n 3, 1) := by decide +kernel
theorem dX8_sum_5 : decode cX8_sum 5 = .ok (.aload_n 0, 1) := by decide +kernel
theorem dX8_sum_6 : decode cX8_sum 6 = .ok (.getfield 16, 3) := by decide +kernel
theorem dX8_sum_9 : decode cX8_sum 9 = .ok (.if_icmp .ge 20, 3) := by decide +kernel
theorem dX8_sum_12 : decode cX8_sum 12 = .ok (.iload_n 2, 1) := by decide +kernel
theorem dX8_sum_13 : decode cX8_sum 13 = .ok (.aload_n 0, 1) := by decide +kernel
theorem dX8_sum_14 : decode cX8_sum 14 = .ok (.getfield 50, 3) := by decide +kernel
theorem dX8_sum_17 : decode cX8_sum 17 = .ok (.iload_n 1, 1) := by decide +kernel
theorem dX8_sum_18 : decode cX8_sum 18 = .ok (.iload_n 3, 1) := by decide +kernel
theorem dX8_sum_19 : decode cX8_sum 19 = .ok (.iadd, 1) := by decide +kernel
theorem dX8_sum_20 : decode cX8_sum 20 = .ok (.iaload, 1) := by decide +kernel
theorem dX8_sum_21 : decode cX8_sum 21 = .ok (.iadd, 1) := by decide +kernel
theorem dX8_sum_22 : decode cX8_sum 22 = .ok (.istore_n 2, 1) := by decide +kernel
theorem dX8_sum_23 : decode cX8_sum 23 = .ok (.iinc 3 1, 3) := by decide +kernel
theorem dX8_sum_26 : decode cX8_sum 26 = .ok (.goto (-22), 3) := by decide +kernel
theorem dX8_sum_29 : decode cX8_sum 29 = .ok (.iload_n 2, 1) := by decide +kernel
theorem dX8_sum_30 : decode cX8_sum 30 = .ok (.ireturn, 1) := by decide +kernel
theorem dX8_told_0 : decode cX8_told 0 = .ok (.iload_n 1, 1) := by decide +kernel
theorem dX8_told_1 : decode cX8_told 1 = .ok (.tableswitch 117 0 8 #[51, 56, 61, 70, 75, 84, 93, 101, 109], 51) := by decide +kernel
theorem dX8_told_52 : decode cX8_told 52 = .ok (.aload_n 0, 1) := by decide +kernel
theorem dX8_told_53 : decode cX8_told 53 = .ok (.getfield 7, 3) := by decide +kernel
theorem dX8_told_56 : decode cX8_told 56 = .ok (.ireturn, 1) := by decide +kernel
theorem dX8_told_57 : decode cX8_told 57 = .ok (.aload_n 0, 1) := by decide +kernel
theorem dX8_told_58 : decode cX8_told 58 = .ok (.getfield 13, 3) := by decide +kernel
theorem dX8_told_61 : decode cX8_told 61 = .ok (.ireturn, 1) := by decide +kernel
theorem dX8_told_62 : decode cX8_told 62 = .ok (.aload_n 0, 1) := by decide +kernel
theorem dX8_told_63 : decode cX8_told 63 = .ok (.getfield 50, 3) := by decide +kernel
theorem dX8_told_66 : decode cX8_told 66 = .ok (.sipush 1816, 3) := by decide +kernel
theorem dX8_told_69 : decode cX8_told 69 = .ok (.iaload, 1) := by decide +kernel
theorem dX8_told_70 : decode cX8_told 70 = .ok (.ireturn, 1) := by decide +kernel
theorem dX8_told_71 : decode cX8_told 71 = .ok (.aload_n 0, 1) := by decide +kernel
theorem dX8_told_72 : decode cX8_told 72 = .ok (.getfield 78, 3) := by decide +kernel
theorem dX8_told_75 : decode cX8_told 75 = .ok (.ireturn, 1) := by decide +kernel
theorem dX8_told_76 : decode cX8_told 76 = .ok (.aload_n 0, 1) := by decide +kernel
theorem dX8_told_77 : decode cX8_told 77 = .ok (.getfield 50, 3) := by decide +kernel
theorem dX8_told_80 : decode cX8_told 80 = .ok (.sipush 1817, 3) := by decide +kernel
theorem dX8_told_83 : decode cX8_told 83 = .ok (.iaload, 1) := by decide +kernel
theorem dX8_told_84 : decode cX8_told 84 = .ok (.ireturn, 1) := by decide +kernel
theorem dX8_told_85 : decode cX8_told 85 = .ok (.aload_n 0, 1) := by decide +kernel
theorem dX8_told_86 : decode cX8_told 86 = .ok (.getfield 50, 3) := by decide +kernel
theorem dX8_told_89 : decode cX8_told 89 = .ok (.sipush 1818, 3) := by decide +kernel
theorem dX8_told_92 : decode cX8_told 92 = .ok (.iaload, 1) := by decide +kernel
theorem dX8_told_93 : decode cX8_told 93 = .ok (.ireturn, 1) := by decide +kernel
theorem dX8_told_94 : decode cX8_told 94 = .ok (.aload_n 0, 1) := by decide +kernel
theorem dX8_told_95 : decode cX8_told 95 = .ok (.sipush 256, 3) := by decide +kernel
theorem dX8_told_98 : decode cX8_told 98 = .ok (.invokevirtual 174, 3) := by decide +kernel
theorem dX8_told_101 : decode cX8_told 101 = .ok (.ireturn, 1) := by decide +kernel
theorem dX8_told_102 : decode cX8_told 102 = .ok (.aload_n 0, 1) := by decide +kernel
theorem dX8_told_103 : decode cX8_told 103 = .ok (.sipush 768, 3) := by decide +kernel
theorem dX8_told_106 : decode cX8_told 106 = .ok (.invokevirtual 174, 3) := by decide +kernel
theorem dX8_told_109 : decode cX8_told 109 = .ok (.ireturn, 1) := by decide +kernel
theorem dX8_told_110 : decode cX8_told 110 = .ok (.aload_n 0, 1) := by decide +kernel
theorem dX8_told_111 : decode cX8_told 111 = .ok (.sipush 1024, 3) := by decide +kernel
theorem dX8_told_114 : decode cX8_told 114 = .ok (.invokevirtual 174, 3) := by decide +kernel
theorem dX8_told_117 : decode cX8_told 117 = .ok (.ireturn, 1) := by decide +kernel
theorem dX8_told_118 : decode cX8_told 118 = .ok (.iload_n 1, 1) := by decide +kernel
theorem dX8_told_119 : decode cX8_told 119 = .ok (.bipush 9, 2) := by decide +kernel
theorem dX8_told_121 : decode cX8_told 121 = .ok (.bipush 13, 2) := by decide +kernel
theorem dX8_told_123 : decode cX8_told 123 = .ok (.invokestatic 74, 3) := by decide +kernel
theorem dX8_told_126 : decode cX8_told 126 = .ok (.ifCond .eq 19, 3) := by decide +kernel
theorem dX8_told_129 : decode cX8_told 129 = .ok (.aload_n 0, 1) := by decide +kernel
theorem dX8_told_130 : decode cX8_told 130 = .ok (.getfield 50, 3) := by decide +kernel
theorem dX8_told_133 : decode cX8_told 133 = .ok (.sipush 1819, 3) := by decide +kernel
theorem dX8_told_136 : decode cX8_told 136 = .ok (.iload_n 1, 1) := by decide +kernel
theorem dX8_told_137 : decode cX8_told 137 = .ok (.iadd, 1) := by decide +kernel
theorem dX8_told_138 : decode cX8_told 138 = .ok (.bipush 9, 2) := by decide +kernel
theorem dX8_told_140 : decode cX8_told 140 = .ok (.isub, 1) := by decide +kernel
theorem dX8_told_141 : decode cX8_told 141 = .ok (.iaload, 1) := by decide +kernel
theorem dX8_told_142 : decode cX8_told 142 = .ok (.goto 5, 3) := by decide +kernel
theorem dX8_told_145 : decode cX8_told 145 = .ok (.bipush (-2), 2) := by decide +kernel
theorem dX8_told_147 : decode cX8_told 147 = .ok (.ireturn, 1) := by decide +kernel
theorem dX8_front_0 : decode cX8_front 0 = .ok (.iconst 0, 1) := by decide +kernel
theorem dX8_front_1 : decode cX8_front 1 = .ok (.istore_n 2, 1) := by decide +kernel
theorem dX8_front_2 : decode cX8_front 2 = .ok (.iconst 0, 1) := by decide +kernel
theorem dX8_front_3 : decode cX8_front 3 = .ok (.istore_n 3, 1) := by decide +kernel
theorem dX8_front_4 : decode cX8_front 4 = .ok (.iload_n 3, 1) := by decide +kernel
theorem dX8_front_5 : decode cX8_front 5 = .ok (.aload_n 0, 1) := by decide +kernel
theorem dX8_front_6 : decode cX8_front 6 = .ok (.getfield 16, 3) := by decide +kernel
theorem dX8_front_9 : decode cX8_front 9 = .ok (.if_icmp .ge 105, 3) := by decide +kernel
theorem dX8_front_12 : decode cX8_front 12 = .ok (.iconst 0, 1) := by decide +kernel
theorem dX8_front_13 : decode cX8_front 13 = .ok (.istore 4, 2) := by decide +kernel
theorem dX8_front_15 : decode cX8_front 15 = .ok (.iconst 0, 1) := by decide +kernel
theorem dX8_front_16 : decode cX8_front 16 = .ok (.istore 5, 2) := by decide +kernel
theorem dX8_front_18 : decode cX8_front 18 = .ok (.iload 5, 2) := by decide +kernel
theorem dX8_front_20 : decode cX8_front 20 = .ok (.bipush 8, 2) := by decide +kernel
theorem dX8_front_22 : decode cX8_front 22 = .ok (.if_icmp .ge 61, 3) := by decide +kernel
theorem dX8_front_25 : decode cX8_front 25 = .ok (.aload_n 0, 1) := by decide +kernel
theorem dX8_front_26 : decode cX8_front 26 = .ok (.getfield 50, 3) := by decide +kernel
theorem dX8_front_29 : decode cX8_front 29 = .ok (.iconst 0, 1) := by decide +kernel
theorem dX8_front_30 : decode cX8_front 30 = .ok (.iload_n 3, 1) := by decide +kernel
theorem dX8_front_31 : decode cX8_front 31 = .ok (.iadd, 1) := by decide +kernel
theorem dX8_front_32 : decode cX8_front 32 = .ok (.iaload, 1) := by decide +kernel
theorem dX8_front_33 : decode cX8_front 33 = .ok (.iconst 1, 1) := by decide +kernel
theorem dX8_front_34 : decode cX8_front 34 = .ok (.if_icmp .ne 49, 3) := by decide +kernel
theorem dX8_front_37 : decode cX8_front 37 = .ok (.aload_n 0, 1) := by decide +kernel
theorem dX8_front_38 : decode cX8_front 38 = .ok (.iload_n 3, 1) := by decide +kernel
theorem dX8_front_39 : decode cX8_front 39 = .ok (.iload 5, 2) := by decide +kernel
theorem dX8_front_41 : decode cX8_front 41 = .ok (.iconst 1, 1) := by decide +kernel
theorem dX8_front_42 : decode cX8_front 42 = .ok (.invokevirtual 108, 3) := by decide +kernel
theorem dX8_front_45 : decode cX8_front 45 = .ok (.istore 6, 2) := by decide +kernel
theorem dX8_front_47 : decode cX8_front 47 = .ok (.iload 4, 2) := by decide +kernel
theorem dX8_front_49 : decode cX8_front 49 = .ok (.ifCond .ne 21, 3) := by decide +kernel
theorem dX8_front_52 : decode cX8_front 52 = .ok (.iload 6, 2) := by decide +kernel
theorem dX8_front_54 : decode cX8_front 54 = .ok (.ifCond .lt 20, 3) := by decide +kernel
theorem dX8_front_57 : decode cX8_front 57 = .ok (.aload_n 0, 1) := by decide +kernel
theorem dX8_front_58 : decode cX8_front 58 = .ok (.getfield 50, 3) := by decide +kernel
theorem dX8_front_61 : decode cX8_front 61 = .ok (.iconst 0, 1) := by decide +kernel
theorem dX8_front_62 : decode cX8_front 62 = .ok (.iload 6, 2) := by decide +kernel
theorem dX8_front_64 : decode cX8_front 64 = .ok (.iadd, 1) := by decide +kernel
theorem dX8_front_65 : decode cX8_front 65 = .ok (.iaload, 1) := by decide +kernel
theorem dX8_front_66 : decode cX8_front 66 = .ok (.iconst 2, 1) := by decide +kernel
theorem dX8_front_67 : decode cX8_front 67 = .ok (.if_icmp .ne 7, 3) := by decide +kernel
theorem dX8_front_70 : decode cX8_front 70 = .ok (.iconst 1, 1) := by decide +kernel
theorem dX8_front_71 : decode cX8_front 71 = .ok (.goto 4, 3) := by decide +kernel
theorem dX8_front_74 : decode cX8_front 74 = .ok (.iconst 0, 1) := by decide +kernel
theorem dX8_front_75 : decode cX8_front 75 = .ok (.istore 4, 2) := by decide +kernel
theorem dX8_front_77 : decode cX8_front 77 = .ok (.iinc 5 1, 3) := by decide +kernel
theorem dX8_front_80 : decode cX8_front 80 = .ok (.goto (-62), 3) := by decide +kernel
theorem dX8_front_83 : decode cX8_front 83 = .ok (.iload 4, 2) := by decide +kernel
theorem dX8_front_85 : decode cX8_front 85 = .ok (.ifCond .eq 10, 3) := by decide +kernel
theorem dX8_front_88 : decode cX8_front 88 = .ok (.iload_n 2, 1) := by decide +kernel
theorem dX8_front_89 : decode cX8_front 89 = .ok (.iload_n 1, 1) := by decide +kernel
theorem dX8_front_90 : decode cX8_front 90 = .ok (.if_icmp .ne 5, 3) := by decide +kernel
theorem dX8_front_93 : decode cX8_front 93 = .ok (.iload_n 3, 1) := by decide +kernel
theorem dX8_front_94 : decode cX8_front 94 = .ok (.ireturn, 1) := by decide +kernel
theorem dX8_front_95 : decode cX8_front 95 = .ok (.iload_n 2, 1) := by decide +kernel
theorem dX8_front_96 : decode cX8_front 96 = .ok (.iload 4, 2) := by decide +kernel
theorem dX8_front_98 : decode cX8_front 98 = .ok (.ifCond .eq 7, 3) := by decide +kernel
theorem dX8_front_101 : decode cX8_front 101 = .ok (.iconst 1, 1) := by decide +kernel
theorem dX8_front_102 : decode cX8_front 102 = .ok (.goto 4, 3) := by decide +kernel
theorem dX8_front_105 : decode cX8_front 105 = .ok (.iconst 0, 1) := by decide +kernel
theorem dX8_front_106 : decode cX8_front 106 = .ok (.iadd, 1) := by decide +kernel
theorem dX8_front_107 : decode cX8_front 107 = .ok (.istore_n 2, 1) := by decide +kernel
theorem dX8_front_108 : decode cX8_front 108 = .ok (.iinc 3 1, 3) := by decide +kernel
theorem dX8_front_111 : decode cX8_front 111 = .ok (.goto (-107), 3) := by decide +kernel
theorem dX8_front_114 : decode cX8_front 114 = .ok (.bipush (-6), 2) := by decide +kernel
theorem dX8_front_116 : decode cX8_front 116 = .ok (.ireturn, 1) := by decide +kernel
theorem dX8_save_0 : decode cX8_save 0 = .ok (.iconst 0, 1) := by decide +kernel
theorem dX8_save_1 : decode cX8_save 1 = .ok (.istore_n 2, 1) := by decide +kernel
theorem dX8_save_2 : decode cX8_save 2 = .ok (.iload_n 2, 1) := by decide +kernel
theorem dX8_save_3 : decode cX8_save 3 = .ok (.sipush 1824, 3) := by decide +kernel
theorem dX8_save_6 : decode cX8_save 6 = .ok (.if_icmp .ge 27, 3) := by decide +kernel
theorem dX8_save_9 : decode cX8_save 9 = .ok (.aload_n 0, 1) := by decide +kernel
theorem dX8_save_10 : decode cX8_save 10 = .ok (.getfield 53, 3) := by decide +kernel
theorem dX8_save_13 : decode cX8_save 13 = .ok (.sipush 1824, 3) := by decide +kernel
theorem dX8_save_16 : decode cX8_save 16 = .ok (.iload_n 1, 1) := by decide +kernel
theorem dX8_save_17 : decode cX8_save 17 = .ok (.imul, 1) := by decide +kernel
theorem dX8_save_18 : decode cX8_save 18 = .ok (.iload_n 2, 1) := by decide +kernel
theorem dX8_save_19 : decode cX8_save 19 = .ok (.iadd, 1) := by decide +kernel
theorem dX8_save_20 : decode cX8_save 20 = .ok (.aload_n 0, 1) := by decide +kernel
theorem dX8_save_21 : decode cX8_save 21 = .ok (.getfield 50, 3) := by decide +kernel
theorem dX8_save_24 : decode cX8_save 24 = .ok (.iload_n 2, 1) := by decide +kernel
theorem dX8_save_25 : decode cX8_save 25 = .ok (.iaload, 1) := by decide +kernel
theorem dX8_save_26 : decode cX8_save 26 = .ok (.iastore, 1) := by decide +kernel
theorem dX8_save_27 : decode cX8_save 27 = .ok (.iinc 2 1, 3) := by decide +kernel
theorem dX8_save_30 : decode cX8_save 30 = .ok (.goto (-28), 3) := by decide +kernel
theorem dX8_save_33 : decode cX8_save 33 = .ok (.return_, 1) := by decide +kernel
theorem dX8_load_0 : decode cX8_load 0 = .ok (.iconst 0, 1) := by decide +kernel
theorem dX8_load_1 : decode cX8_load 1 = .ok (.istore_n 2, 1) := by decide +kernel
theorem dX8_load_2 : decode cX8_load 2 = .ok (.iload_n 2, 1) := by decide +kernel
theorem dX8_load_3 : decode cX8_load 3 = .ok (.sipush 1824, 3) := by decide +kernel
theorem dX8_load_6 : decode cX8_load 6 = .ok (.if_icmp .ge 27, 3) := by decide +kernel
theorem dX8_load_9 : decode cX8_load 9 = .ok (.aload_n 0, 1) := by decide +kernel
theorem dX8_load_10 : decode cX8_load 10 = .ok (.getfield 50, 3) := by decide +kernel
theorem dX8_load_13 : decode cX8_load 13 = .ok (.iload_n 2, 1) := by decide +kernel
theorem dX8_load_14 : decode cX8_load 14 = .ok (.aload_n 0, 1) := by decide +kernel
theorem dX8_load_15 : decode cX8_load 15 = .ok (.getfield 53, 3) := by decide +kernel
theorem dX8_load_18 : decode cX8_load 18 = .ok (.sipush 1824, 3) := by decide +kernel
theorem dX8_load_21 : decode cX8_load 21 = .ok (.iload_n 1, 1) := by decide +kernel
theorem dX8_load_22 : decode cX8_load 22 = .ok (.imul, 1) := by decide +kernel
theorem dX8_load_23 : decode cX8_load 23 = .ok (.iload_n 2, 1) := by decide +kernel
theorem dX8_load_24 : decode cX8_load 24 = .ok (.iadd, 1) := by decide +kernel
theorem dX8_load_25 : decode cX8_load 25 = .ok (.iaload, 1) := by decide +kernel
theorem dX8_load_26 : decode cX8_load 26 = .ok (.iastore, 1) := by decide +kernel
theorem dX8_load_27 : decode cX8_load 27 = .ok (.iinc 2 1, 3) := by decide +kernel
theorem dX8_load_30 : decode cX8_load 30 = .ok (.goto (-28), 3) := by decide +kernel
theorem dX8_load_33 : decode cX8_load 33 = .ok (.return_, 1) := by decide +kernel
theorem dX8_keep_0 : decode cX8_keep 0 = .ok (.iload_n 1, 1) := by decide +kernel
theorem dX8_keep_1 : decode cX8_keep 1 = .ok (.iconst 0, 1) := by decide +kernel
theorem dX8_keep_2 : decode cX8_keep 2 = .ok (.iconst 2, 1) := by decide +kernel
theorem dX8_keep_3 : decode cX8_keep 3 = .ok (.invokestatic 74, 3) := by decide +kernel
theorem dX8_keep_6 : decode cX8_keep 6 = .ok (.ifCond .ne 5, 3) := by decide +kernel
theorem dX8_keep_9 : decode cX8_keep 9 = .ok (.iconst (-1), 1) := by decide +kernel
theorem dX8_keep_10 : decode cX8_keep 10 = .ok (.ireturn, 1) := by decide +kernel
theorem dX8_keep_11 : decode cX8_keep 11 = .ok (.aload_n 0, 1) := by decide +kernel
theorem dX8_keep_12 : decode cX8_keep 12 = .ok (.iload_n 1, 1) := by decide +kernel
theorem dX8_keep_13 : decode cX8_keep 13 = .ok (.invokevirtual 177, 3) := by decide +kernel
theorem dX8_keep_16 : decode cX8_keep 16 = .ok (.aload_n 0, 1) := by decide +kernel
theorem dX8_keep_17 : decode cX8_keep 17 = .ok (.getfield 56, 3) := by decide +kernel
theorem dX8_keep_20 : decode cX8_keep 20 = .ok (.iload_n 1, 1) := by decide +kernel
theorem dX8_keep_21 : decode cX8_keep 21 = .ok (.aload_n 0, 1) := by decide +kernel
theorem dX8_keep_22 : decode cX8_keep 22 = .ok (.getfield 59, 3) := by decide +kernel
theorem dX8_keep_25 : decode cX8_keep 25 = .ok (.iastore, 1) := by decide +kernel
theorem dX8_keep_26 : decode cX8_keep 26 = .ok (.aload_n 0, 1) := by decide +kernel
theorem dX8_keep_27 : decode cX8_keep 27 = .ok (.getfield 50, 3) := by decide +kernel
theorem dX8_keep_30 : decode cX8_keep 30 = .ok (.sipush 1816, 3) := by decide +kernel
theorem dX8_keep_33 : decode cX8_keep 33 = .ok (.iaload, 1) := by decide +kernel
theorem dX8_keep_34 : decode cX8_keep 34 = .ok (.ireturn, 1) := by decide +kernel
theorem dX8_bars_0 : decode cX8_bars 0 = .ok (.iload_n 1, 1) := by decide +kernel
theorem dX8_bars_1 : decode cX8_bars 1 = .ok (.iconst 0, 1) := by decide +kernel
theorem dX8_bars_2 : decode cX8_bars 2 = .ok (.iconst 2, 1) := by decide +kernel
theorem dX8_bars_3 : decode cX8_bars 3 = .ok (.invokestatic 74, 3) := by decide +kernel
theorem dX8_bars_6 : decode cX8_bars 6 = .ok (.ifCond .eq 12, 3) := by decide +kernel
theorem dX8_bars_9 : decode cX8_bars 9 = .ok (.aload_n 0, 1) := by decide +kernel
theorem dX8_bars_10 : decode cX8_bars 10 = .ok (.getfield 56, 3) := by decide +kernel
theorem dX8_bars_13 : decode cX8_bars 13 = .ok (.iload_n 1, 1) := by decide +kernel
theorem dX8_bars_14 : decode cX8_bars 14 = .ok (.iaload, 1) := by decide +kernel
theorem dX8_bars_15 : decode cX8_bars 15 = .ok (.ifCond .ne 7, 3) := by decide +kernel
theorem dX8_bars_18 : decode cX8_bars 18 = .ok (.iconst (-1), 1) := by decide +kernel
theorem dX8_bars_19 : decode cX8_bars 19 = .ok (.goto 22, 3) := by decide +kernel
theorem dX8_bars_22 : decode cX8_bars 22 = .ok (.aload_n 0, 1) := by decide +kernel
theorem dX8_bars_23 : decode cX8_bars 23 = .ok (.getfield 56, 3) := by decide +kernel
theorem dX8_bars_26 : decode cX8_bars 26 = .ok (.iload_n 1, 1) := by decide +kernel
theorem dX8_bars_27 : decode cX8_bars 27 = .ok (.iaload, 1) := by decide +kernel
theorem dX8_bars_28 : decode cX8_bars 28 = .ok (.aload_n 0, 1) := by decide +kernel
theorem dX8_bars_29 : decode cX8_bars 29 = .ok (.getfield 59, 3) := by decide +kernel
theorem dX8_bars_32 : decode cX8_bars 32 = .ok (.if_icmp .eq 8, 3) := by decide +kernel
theorem dX8_bars_35 : decode cX8_bars 35 = .ok (.bipush (-3), 2) := by decide +kernel
theorem dX8_bars_37 : decode cX8_bars 37 = .ok (.goto 4, 3) := by decide +kernel
theorem dX8_bars_40 : decode cX8_bars 40 = .ok (.iconst 0, 1) := by decide +kernel
theorem dX8_bars_41 : decode cX8_bars 41 = .ok (.ireturn, 1) := by decide +kernel
theorem dX8_back_0 : decode cX8_back 0 = .ok (.aload_n 0, 1) := by decide +kernel
theorem dX8_back_1 : decode cX8_back 1 = .ok (.iload_n 1, 1) := by decide +kernel
theorem dX8_back_2 : decode cX8_back 2 = .ok (.invokevirtual 180, 3) := by decide +kernel
theorem dX8_back_5 : decode cX8_back 5 = .ok (.istore_n 2, 1) := by decide +kernel
theorem dX8_back_6 : decode cX8_back 6 = .ok (.iload_n 2, 1) := by decide +kernel
theorem dX8_back_7 : decode cX8_back 7 = .ok (.ifCond .ge 5, 3) := by decide +kernel
theorem dX8_back_10 : decode cX8_back 10 = .ok (.iload_n 2, 1) := by decide +kernel
theorem dX8_back_11 : decode cX8_back 11 = .ok (.ireturn, 1) := by decide +kernel
theorem dX8_back_12 : decode cX8_back 12 = .ok (.aload_n 0, 1) := by decide +kernel
theorem dX8_back_13 : decode cX8_back 13 = .ok (.iload_n 1, 1) := by decide +kernel
theorem dX8_back_14 : decode cX8_back 14 = .ok (.invokevirtual 183, 3) := by decide +kernel
theorem dX8_back_17 : decode cX8_back 17 = .ok (.aload_n 0, 1) := by decide +kernel
theorem dX8_back_18 : decode cX8_back 18 = .ok (.getfield 50, 3) := by decide +kernel
theorem dX8_back_21 : decode cX8_back 21 = .ok (.sipush 1816, 3) := by decide +kernel
theorem dX8_back_24 : decode cX8_back 24 = .ok (.iaload, 1) := by decide +kernel
theorem dX8_back_25 : decode cX8_back 25 = .ok (.ireturn, 1) := by decide +kernel
theorem dX8_differs_0 : decode cX8_differs 0 = .ok (.aload_n 0, 1) := by decide +kernel
theorem dX8_differs_1 : decode cX8_differs 1 = .ok (.iload_n 1, 1) := by decide +kernel
theorem dX8_differs_2 : decode cX8_differs 2 = .ok (.invokevirtual 180, 3) := by decide +kernel
theorem dX8_differs_5 : decode cX8_differs 5 = .ok (.istore_n 2, 1) := by decide +kernel
theorem dX8_differs_6 : decode cX8_differs 6 = .ok (.iload_n 2, 1) := by decide +kernel
theorem dX8_differs_7 : decode cX8_differs 7 = .ok (.ifCond .ge 5, 3) := by decide +kernel
theorem dX8_differs_10 : decode cX8_differs 10 = .ok (.iload_n 2, 1) := by decide +kernel
theorem dX8_differs_11 : decode cX8_differs 11 = .ok (.ireturn, 1) := by decide +kernel
theorem dX8_differs_12 : decode cX8_differs 12 = .ok (.iconst 0, 1) := by decide +kernel
theorem dX8_differs_13 : decode cX8_differs 13 = .ok (.istore_n 3, 1) := by decide +kernel
theorem dX8_differs_14 : decode cX8_differs 14 = .ok (.iconst 0, 1) := by decide +kernel
theorem dX8_differs_15 : decode cX8_differs 15 = .ok (.istore 4, 2) := by decide +kernel
theorem dX8_differs_17 : decode cX8_differs 17 = .ok (.iload 4, 2) := by decide +kernel
theorem dX8_differs_19 : decode cX8_differs 19 = .ok (.aload_n 0, 1) := by decide +kernel
theorem dX8_differs_20 : decode cX8_differs 20 = .ok (.getfield 16, 3) := by decide +kernel
theorem dX8_differs_23 : decode cX8_differs 23 = .ok (.if_icmp .ge 89, 3) := by decide +kernel
theorem dX8_differs_26 : decode cX8_differs 26 = .ok (.iconst 1, 1) := by decide +kernel
theorem dX8_differs_27 : decode cX8_differs 27 = .ok (.istore 5, 2) := by decide +kernel
theorem dX8_differs_29 : decode cX8_differs 29 = .ok (.iconst 0, 1) := by decide +kernel
theorem dX8_differs_30 : decode cX8_differs 30 = .ok (.istore 6, 2) := by decide +kernel
theorem dX8_differs_32 : decode cX8_differs 32 = .ok (.iload 6, 2) := by decide +kernel
theorem dX8_differs_34 : decode cX8_differs 34 = .ok (.iconst 5, 1) := by decide +kernel
theorem dX8_differs_35 : decode cX8_differs 35 = .ok (.if_icmp .ge 58, 3) := by decide +kernel
theorem dX8_differs_38 : decode cX8_differs 38 = .ok (.iload 5, 2) := by decide +kernel
theorem dX8_differs_40 : decode cX8_differs 40 = .ok (.ifCond .eq 44, 3) := by decide +kernel
theorem dX8_differs_43 : decode cX8_differs 43 = .ok (.aload_n 0, 1) := by decide +kernel
theorem dX8_differs_44 : decode cX8_differs 44 = .ok (.getfield 50, 3) := by decide +kernel
theorem dX8_differs_47 : decode cX8_differs 47 = .ok (.sipush 256, 3) := by decide +kernel
theorem dX8_differs_50 : decode cX8_differs 50 = .ok (.iload 6, 2) := by decide +kernel
theorem dX8_differs_52 : decode cX8_differs 52 = .ok (.imul, 1) := by decide +kernel
theorem dX8_differs_53 : decode cX8_differs 53 = .ok (.iload 4, 2) := by decide +kernel
theorem dX8_differs_55 : decode cX8_differs 55 = .ok (.iadd, 1) := by decide +kernel
theorem dX8_differs_56 : decode cX8_differs 56 = .ok (.iaload, 1) := by decide +kernel
theorem dX8_differs_57 : decode cX8_differs 57 = .ok (.aload_n 0, 1) := by decide +kernel
theorem dX8_differs_58 : decode cX8_differs 58 = .ok (.getfield 53, 3) := by decide +kernel
theorem dX8_differs_61 : decode cX8_differs 61 = .ok (.sipush 1824, 3) := by decide +kernel
theorem dX8_differs_64 : decode cX8_differs 64 = .ok (.iload_n 1, 1) := by decide +kernel
theorem dX8_differs_65 : decode cX8_differs 65 = .ok (.imul, 1) := by decide +kernel
theorem dX8_differs_66 : decode cX8_differs 66 = .ok (.sipush 256, 3) := by decide +kernel
theorem dX8_differs_69 : decode cX8_differs 69 = .ok (.iload 6, 2) := by decide +kernel
theorem dX8_differs_71 : decode cX8_differs 71 = .ok (.imul, 1) := by decide +kernel
theorem dX8_differs_72 : decode cX8_differs 72 = .ok (.iadd, 1) := by decide +kernel
theorem dX8_differs_73 : decode cX8_differs 73 = .ok (.iload 4, 2) := by decide +kernel
theorem dX8_differs_75 : decode cX8_differs 75 = .ok (.iadd, 1) := by decide +kernel
theorem dX8_differs_76 : decode cX8_differs 76 = .ok (.iaload, 1) := by decide +kernel
theorem dX8_differs_77 : decode cX8_differs 77 = .ok (.if_icmp .ne 7, 3) := by decide +kernel
theorem dX8_differs_80 : decode cX8_differs 80 = .ok (.iconst 1, 1) := by decide +kernel
theorem dX8_differs_81 : decode cX8_differs 81 = .ok (.goto 4, 3) := by decide +kernel
theorem dX8_differs_84 : decode cX8_differs 84 = .ok (.iconst 0, 1) := by decide +kernel
theorem dX8_differs_85 : decode cX8_differs 85 = .ok (.istore 5, 2) := by decide +kernel
theorem dX8_differs_87 : decode cX8_differs 87 = .ok (.iinc 6 1, 3) := by decide +kernel
theorem dX8_differs_90 : decode cX8_differs 90 = .ok (.goto (-58), 3) := by decide +kernel
theorem dX8_differs_93 : decode cX8_differs 93 = .ok (.iload_n 3, 1) := by decide +kernel
theorem dX8_differs_94 : decode cX8_differs 94 = .ok (.iload 5, 2) := by decide +kernel
theorem dX8_differs_96 : decode cX8_differs 96 = .ok (.ifCond .eq 7, 3) := by decide +kernel
theorem dX8_differs_99 : decode cX8_differs 99 = .ok (.iconst 0, 1) := by decide +kernel
theorem dX8_differs_100 : decode cX8_differs 100 = .ok (.goto 4, 3) := by decide +kernel
theorem dX8_differs_103 : decode cX8_differs 103 = .ok (.iconst 1, 1) := by decide +kernel
theorem dX8_differs_104 : decode cX8_differs 104 = .ok (.iadd, 1) := by decide +kernel
theorem dX8_differs_105 : decode cX8_differs 105 = .ok (.istore_n 3, 1) := by decide +kernel
theorem dX8_differs_106 : decode cX8_differs 106 = .ok (.iinc 4 1, 3) := by decide +kernel
theorem dX8_differs_109 : decode cX8_differs 109 = .ok (.goto (-92), 3) := by decide +kernel
theorem dX8_differs_112 : decode cX8_differs 112 = .ok (.iload_n 3, 1) := by decide +kernel
theorem dX8_differs_113 : decode cX8_differs 113 = .ok (.ireturn, 1) := by decide +kernel
theorem dX8_ahead_0 : decode cX8_ahead 0 = .ok (.aload_n 0, 1) := by decide +kernel
theorem dX8_ahead_1 : decode cX8_ahead 1 = .ok (.iload_n 1, 1) := by decide +kernel
theorem dX8_ahead_2 : decode cX8_ahead 2 = .ok (.invokevirtual 84, 3) := by decide +kernel
theorem dX8_ahead_5 : decode cX8_ahead 5 = .ok (.ifCond .ne 5, 3) := by decide +kernel
theorem dX8_ahead_8 : decode cX8_ahead 8 = .ok (.iconst (-1), 1) := by decide +kernel
theorem dX8_ahead_9 : decode cX8_ahead 9 = .ok (.ireturn, 1) := by decide +kernel
theorem dX8_ahead_10 : decode cX8_ahead 10 = .ok (.iload_n 2, 1) := by decide +kernel
theorem dX8_ahead_11 : decode cX8_ahead 11 = .ok (.iconst 0, 1) := by decide +kernel
theorem dX8_ahead_12 : decode cX8_ahead 12 = .ok (.sipush 200, 3) := by decide +kernel
theorem dX8_ahead_15 : decode cX8_ahead 15 = .ok (.invokestatic 74, 3) := by decide +kernel
theorem dX8_ahead_18 : decode cX8_ahead 18 = .ok (.ifCond .ne 6, 3) := by decide +kernel
theorem dX8_ahead_21 : decode cX8_ahead 21 = .ok (.bipush (-2), 2) := by decide +kernel
theorem dX8_ahead_23 : decode cX8_ahead 23 = .ok (.ireturn, 1) := by decide +kernel
theorem dX8_ahead_24 : decode cX8_ahead 24 = .ok (.aload_n 0, 1) := by decide +kernel
theorem dX8_ahead_25 : decode cX8_ahead 25 = .ok (.getfield 50, 3) := by decide +kernel
theorem dX8_ahead_28 : decode cX8_ahead 28 = .ok (.sipush 1280, 3) := by decide +kernel
theorem dX8_ahead_31 : decode cX8_ahead 31 = .ok (.iload_n 1, 1) := by decide +kernel
theorem dX8_ahead_32 : decode cX8_ahead 32 = .ok (.iadd, 1) := by decide +kernel
theorem dX8_ahead_33 : decode cX8_ahead 33 = .ok (.iaload, 1) := by decide +kernel
theorem dX8_ahead_34 : decode cX8_ahead 34 = .ok (.bipush (-6), 2) := by decide +kernel
theorem dX8_ahead_36 : decode cX8_ahead 36 = .ok (.if_icmp .eq 6, 3) := by decide +kernel
theorem dX8_ahead_39 : decode cX8_ahead 39 = .ok (.bipush (-6), 2) := by decide +kernel
theorem dX8_ahead_41 : decode cX8_ahead 41 = .ok (.ireturn, 1) := by decide +kernel
theorem dX8_ahead_42 : decode cX8_ahead 42 = .ok (.aload_n 0, 1) := by decide +kernel
theorem dX8_ahead_43 : decode cX8_ahead 43 = .ok (.iconst 3, 1) := by decide +kernel
theorem dX8_ahead_44 : decode cX8_ahead 44 = .ok (.invokevirtual 177, 3) := by decide +kernel
theorem dX8_ahead_47 : decode cX8_ahead 47 = .ok (.bipush (-6), 2) := by decide +kernel
theorem dX8_ahead_49 : decode cX8_ahead 49 = .ok (.istore_n 3, 1) := by decide +kernel
theorem dX8_ahead_50 : decode cX8_ahead 50 = .ok (.iconst 0, 1) := by decide +kernel
theorem dX8_ahead_51 : decode cX8_ahead 51 = .ok (.istore 4, 2) := by decide +kernel
theorem dX8_ahead_53 : decode cX8_ahead 53 = .ok (.iload 4, 2) := by decide +kernel
theorem dX8_ahead_55 : decode cX8_ahead 55 = .ok (.iload_n 2, 1) := by decide +kernel
theorem dX8_ahead_56 : decode cX8_ahead 56 = .ok (.if_icmp .ge 30, 3) := by decide +kernel
theorem dX8_ahead_59 : decode cX8_ahead 59 = .ok (.iload_n 3, 1) := by decide +kernel
theorem dX8_ahead_60 : decode cX8_ahead 60 = .ok (.bipush (-6), 2) := by decide +kernel
theorem dX8_ahead_62 : decode cX8_ahead 62 = .ok (.if_icmp .ne 24, 3) := by decide +kernel
theorem dX8_ahead_65 : decode cX8_ahead 65 = .ok (.aload_n 0, 1) := by decide +kernel
theorem dX8_ahead_66 : decode cX8_ahead 66 = .ok (.invokevirtual 152, 3) := by decide +kernel
theorem dX8_ahead_69 : decode cX8_ahead 69 = .ok (.aload_n 0, 1) := by decide +kernel
theorem dX8_ahead_70 : decode cX8_ahead 70 = .ok (.getfield 50, 3) := by decide +kernel
theorem dX8_ahead_73 : decode cX8_ahead 73 = .ok (.sipush 1280, 3) := by decide +kernel
theorem dX8_ahead_76 : decode cX8_ahead 76 = .ok (.iload_n 1, 1) := by decide +kernel
theorem dX8_ahead_77 : decode cX8_ahead 77 = .ok (.iadd, 1) := by decide +kernel
theorem dX8_ahead_78 : decode cX8_ahead 78 = .ok (.iaload, 1) := by decide +kernel
theorem dX8_ahead_79 : decode cX8_ahead 79 = .ok (.istore_n 3, 1) := by decide +kernel
theorem dX8_ahead_80 : decode cX8_ahead 80 = .ok (.iinc 4 1, 3) := by decide +kernel
theorem dX8_ahead_83 : decode cX8_ahead 83 = .ok (.goto (-30), 3) := by decide +kernel
theorem dX8_ahead_86 : decode cX8_ahead 86 = .ok (.aload_n 0, 1) := by decide +kernel
theorem dX8_ahead_87 : decode cX8_ahead 87 = .ok (.iconst 3, 1) := by decide +kernel
theorem dX8_ahead_88 : decode cX8_ahead 88 = .ok (.invokevirtual 183, 3) := by decide +kernel
theorem dX8_ahead_91 : decode cX8_ahead 91 = .ok (.iload_n 3, 1) := by decide +kernel
theorem dX8_ahead_92 : decode cX8_ahead 92 = .ok (.ireturn, 1) := by decide +kernel
theorem dJ6_compare_7cf53_0 : decode cJ6_compare_7cf53 0 = .ok (.iload_n 0, 1) := by decide +kernel
theorem dJ6_compare_7cf53_1 : decode cJ6_compare_7cf53 1 = .ok (.iload_n 1, 1) := by decide +kernel
theorem dJ6_compare_7cf53_2 : decode cJ6_compare_7cf53 2 = .ok (.if_icmp .ge 7, 3) := by decide +kernel
theorem dJ6_compare_7cf53_5 : decode cJ6_compare_7cf53 5 = .ok (.iconst (-1), 1) := by decide +kernel
theorem dJ6_compare_7cf53_6 : decode cJ6_compare_7cf53 6 = .ok (.goto 13, 3) := by decide +kernel
theorem dJ6_compare_7cf53_9 : decode cJ6_compare_7cf53 9 = .ok (.iload_n 0, 1) := by decide +kernel
theorem dJ6_compare_7cf53_10 : decode cJ6_compare_7cf53 10 = .ok (.iload_n 1, 1) := by decide +kernel
theorem dJ6_compare_7cf53_11 : decode cJ6_compare_7cf53 11 = .ok (.if_icmp .ne 7, 3) := by decide +kernel
theorem dJ6_compare_7cf53_14 : decode cJ6_compare_7cf53 14 = .ok (.iconst 0, 1) := by decide +kernel
theorem dJ6_compare_7cf53_15 : decode cJ6_compare_7cf53 15 = .ok (.goto 4, 3) := by decide +kernel
theorem dJ6_compare_7cf53_18 : decode cJ6_compare_7cf53 18 = .ok (.iconst 1, 1) := by decide +kernel
theorem dJ6_compare_7cf53_19 : decode cJ6_compare_7cf53 19 = .ok (.ireturn, 1) := by decide +kernel
theorem dJ9_max_7cf53_0 : decode cJ9_max_7cf53 0 = .ok (.iload_n 0, 1) := by decide +kernel
theorem dJ9_max_7cf53_1 : decode cJ9_max_7cf53 1 = .ok (.iload_n 1, 1) := by decide +kernel
theorem dJ9_max_7cf53_2 : decode cJ9_max_7cf53 2 = .ok (.if_icmp .lt 7, 3) := by decide +kernel
theorem dJ9_max_7cf53_5 : decode cJ9_max_7cf53 5 = .ok (.iload_n 0, 1) := by decide +kernel
theorem dJ9_max_7cf53_6 : decode cJ9_max_7cf53 6 = .ok (.goto 4, 3) := by decide +kernel
theorem dJ9_max_7cf53_9 : decode cJ9_max_7cf53 9 = .ok (.iload_n 1, 1) := by decide +kernel
theorem dJ9_max_7cf53_10 : decode cJ9_max_7cf53 10 = .ok (.ireturn, 1) := by decide +kernel
theorem dJ9_min_7cf53_0 : decode cJ9_min_7cf53 0 = .ok (.iload_n 0, 1) := by decide +kernel
theorem dJ9_min_7cf53_1 : decode cJ9_min_7cf53 1 = .ok (.iload_n 1, 1) := by decide +kernel
theorem dJ9_min_7cf53_2 : decode cJ9_min_7cf53 2 = .ok (.if_icmp .gt 7, 3) := by decide +kernel
theorem dJ9_min_7cf53_5 : decode cJ9_min_7cf53 5 = .ok (.iload_n 0, 1) := by decide +kernel
theorem dJ9_min_7cf53_6 : decode cJ9_min_7cf53 6 = .ok (.goto 4, 3) := by decide +kernel
theorem dJ9_min_7cf53_9 : decode cJ9_min_7cf53 9 = .ok (.iload_n 1, 1) := by decide +kernel
theorem dJ9_min_7cf53_10 : decode cJ9_min_7cf53 10 = .ok (.ireturn, 1) := by decide +kernel
theorem dJ7_fill_53178_0 : decode cJ7_fill_53178 0 = .ok (.iconst 0, 1) := by decide +kernel
theorem dJ7_fill_53178_1 : decode cJ7_fill_53178 1 = .ok (.istore_n 2, 1) := by decide +kernel
theorem dJ7_fill_53178_2 : decode cJ7_fill_53178 2 = .ok (.aload_n 0, 1) := by decide +kernel
theorem dJ7_fill_53178_3 : decode cJ7_fill_53178 3 = .ok (.arraylength, 1) := by decide +kernel
theorem dJ7_fill_53178_4 : decode cJ7_fill_53178 4 = .ok (.istore_n 3, 1) := by decide +kernel
theorem dJ7_fill_53178_5 : decode cJ7_fill_53178 5 = .ok (.iload_n 2, 1) := by decide +kernel
theorem dJ7_fill_53178_6 : decode cJ7_fill_53178 6 = .ok (.iload_n 3, 1) := by decide +kernel
theorem dJ7_fill_53178_7 : decode cJ7_fill_53178 7 = .ok (.if_icmp .ge 13, 3) := by decide +kernel
theorem dJ7_fill_53178_10 : decode cJ7_fill_53178 10 = .ok (.aload_n 0, 1) := by decide +kernel
theorem dJ7_fill_53178_11 : decode cJ7_fill_53178 11 = .ok (.iload_n 2, 1) := by decide +kernel
theorem dJ7_fill_53178_12 : decode cJ7_fill_53178 12 = .ok (.iload_n 1, 1) := by decide +kernel
theorem dJ7_fill_53178_13 : decode cJ7_fill_53178 13 = .ok (.iastore, 1) := by decide +kernel
theorem dJ7_fill_53178_14 : decode cJ7_fill_53178 14 = .ok (.iinc 2 1, 3) := by decide +kernel
theorem dJ7_fill_53178_17 : decode cJ7_fill_53178 17 = .ok (.goto (-12), 3) := by decide +kernel
theorem dJ7_fill_53178_20 : decode cJ7_fill_53178 20 = .ok (.return_, 1) := by decide +kernel
theorem dL_law_0 : decode cL_law 0 = .ok (.new 7, 3) := by decide +kernel
theorem dL_law_3 : decode cL_law 3 = .ok (.dup, 1) := by decide +kernel
theorem dL_law_4 : decode cL_law 4 = .ok (.invokespecial 9, 3) := by decide +kernel
theorem dL_law_7 : decode cL_law 7 = .ok (.astore_n 1, 1) := by decide +kernel
theorem dL_law_8 : decode cL_law 8 = .ok (.new 10, 3) := by decide +kernel
theorem dL_law_11 : decode cL_law 11 = .ok (.dup, 1) := by decide +kernel
theorem dL_law_12 : decode cL_law 12 = .ok (.invokespecial 12, 3) := by decide +kernel
theorem dL_law_15 : decode cL_law 15 = .ok (.astore_n 2, 1) := by decide +kernel
theorem dL_law_16 : decode cL_law 16 = .ok (.iconst 0, 1) := by decide +kernel
theorem dL_law_17 : decode cL_law 17 = .ok (.istore_n 3, 1) := by decide +kernel
theorem dL_law_18 : decode cL_law 18 = .ok (.iload_n 3, 1) := by decide +kernel
theorem dL_law_19 : decode cL_law 19 = .ok (.aload_n 0, 1) := by decide +kernel
theorem dL_law_20 : decode cL_law 20 = .ok (.arraylength, 1) := by decide +kernel
theorem dL_law_21 : decode cL_law 21 = .ok (.bipush 6, 2) := by decide +kernel
theorem dL_law_23 : decode cL_law 23 = .ok (.isub, 1) := by decide +kernel
theorem dL_law_24 : decode cL_law 24 = .ok (.if_icmp .gt 817, 3) := by decide +kernel
theorem dL_law_27 : decode cL_law 27 = .ok (.aload_n 0, 1) := by decide +kernel
theorem dL_law_28 : decode cL_law 28 = .ok (.iload_n 3, 1) := by decide +kernel
theorem dL_law_29 : decode cL_law 29 = .ok (.iaload, 1) := by decide +kernel
theorem dL_law_30 : decode cL_law 30 = .ok (.bipush 31, 2) := by decide +kernel
theorem dL_law_32 : decode cL_law 32 = .ok (.iand, 1) := by decide +kernel
theorem dL_law_33 : decode cL_law 33 = .ok (.tableswitch 802 0 22 #[107, 140, 203, 256, 279, 312, 325, 348, 381, 404, 427, 460, 483, 506, 549, 572, 605, 628, 667, 700, 723, 746, 769], 107) := by decide +kernel
theorem dL_law_140 : decode cL_law 140 = .ok (.aload_n 1, 1) := by decide +kernel
theorem dL_law_141 : decode cL_law 141 = .ok (.aload_n 0, 1) := by decide +kernel
theorem dL_law_142 : decode cL_law 142 = .ok (.iload_n 3, 1) := by decide +kernel
theorem dL_law_143 : decode cL_law 143 = .ok (.iconst 1, 1) := by decide +kernel
theorem dL_law_144 : decode cL_law 144 = .ok (.iadd, 1) := by decide +kernel
theorem dL_law_145 : decode cL_law 145 = .ok (.iaload, 1) := by decide +kernel
theorem dL_law_146 : decode cL_law 146 = .ok (.aload_n 0, 1) := by decide +kernel
theorem dL_law_147 : decode cL_law 147 = .ok (.iload_n 3, 1) := by decide +kernel
theorem dL_law_148 : decode cL_law 148 = .ok (.iconst 2, 1) := by decide +kernel
theorem dL_law_149 : decode cL_law 149 = .ok (.iadd, 1) := by decide +kernel
theorem dL_law_150 : decode cL_law 150 = .ok (.iaload, 1) := by decide +kernel
theorem dL_law_151 : decode cL_law 151 = .ok (.invokevirtual 13, 3) := by decide +kernel
theorem dL_law_154 : decode cL_law 154 = .ok (.aload_n 2, 1) := by decide +kernel
theorem dL_law_155 : decode cL_law 155 = .ok (.aload_n 0, 1) := by decide +kernel
theorem dL_law_156 : decode cL_law 156 = .ok (.iload_n 3, 1) := by decide +kernel
theorem dL_law_157 : decode cL_law 157 = .ok (.iconst 1, 1) := by decide +kernel
theorem dL_law_158 : decode cL_law 158 = .ok (.iadd, 1) := by decide +kernel
theorem dL_law_159 : decode cL_law 159 = .ok (.iaload, 1) := by decide +kernel
theorem dL_law_160 : decode cL_law 160 = .ok (.aload_n 0, 1) := by decide +kernel
theorem dL_law_161 : decode cL_law 161 = .ok (.iload_n 3, 1) := by decide +kernel
theorem dL_law_162 : decode cL_law 162 = .ok (.iconst 2, 1) := by decide +kernel
theorem dL_law_163 : decode cL_law 163 = .ok (.iadd, 1) := by decide +kernel
theorem dL_law_164 : decode cL_law 164 = .ok (.iaload, 1) := by decide +kernel
theorem dL_law_165 : decode cL_law 165 = .ok (.invokevirtual 17, 3) := by decide +kernel
theorem dL_law_168 : decode cL_law 168 = .ok (.if_icmp .eq 667, 3) := by decide +kernel
theorem dL_law_171 : decode cL_law 171 = .ok (.iconst 0, 1) := by decide +kernel
theorem dL_law_172 : decode cL_law 172 = .ok (.ireturn, 1) := by decide +kernel
theorem dL_law_173 : decode cL_law 173 = .ok (.aload_n 1, 1) := by decide +kernel
theorem dL_law_174 : decode cL_law 174 = .ok (.aload_n 0, 1) := by decide +kernel
theorem dL_law_175 : decode cL_law 175 = .ok (.iload_n 3, 1) := by decide +kernel
theorem dL_law_176 : decode cL_law 176 = .ok (.iconst 1, 1) := by decide +kernel
theorem dL_law_177 : decode cL_law 177 = .ok (.iadd, 1) := by decide +kernel
theorem dL_law_178 : decode cL_law 178 = .ok (.iaload, 1) := by decide +kernel
theorem dL_law_179 : decode cL_law 179 = .ok (.aload_n 0, 1) := by decide +kernel
theorem dL_law_180 : decode cL_law 180 = .ok (.iload_n 3, 1) := by decide +kernel
theorem dL_law_181 : decode cL_law 181 = .ok (.iconst 2, 1) := by decide +kernel
theorem dL_law_182 : decode cL_law 182 = .ok (.iadd, 1) := by decide +kernel
theorem dL_law_183 : decode cL_law 183 = .ok (.iaload, 1) := by decide +kernel
theorem dL_law_184 : decode cL_law 184 = .ok (.aload_n 0, 1) := by decide +kernel
theorem dL_law_185 : decode cL_law 185 = .ok (.iload_n 3, 1) := by decide +kernel
theorem dL_law_186 : decode cL_law 186 = .ok (.iconst 3, 1) := by decide +kernel
theorem dL_law_187 : decode cL_law 187 = .ok (.iadd, 1) := by decide +kernel
theorem dL_law_188 : decode cL_law 188 = .ok (.iaload, 1) := by decide +kernel
theorem dL_law_189 : decode cL_law 189 = .ok (.aload_n 0, 1) := by decide +kernel
theorem dL_law_190 : decode cL_law 190 = .ok (.iload_n 3, 1) := by decide +kernel
theorem dL_law_191 : decode cL_law 191 = .ok (.iconst 4, 1) := by decide +kernel
theorem dL_law_192 : decode cL_law 192 = .ok (.iadd, 1) := by decide +kernel
theorem dL_law_193 : decode cL_law 193 = .ok (.iaload, 1) := by decide +kernel
theorem dL_law_194 : decode cL_law 194 = .ok (.aload_n 0, 1) := by decide +kernel
theorem dL_law_195 : decode cL_law 195 = .ok (.iload_n 3, 1) := by decide +kernel
theorem dL_law_196 : decode cL_law 196 = .ok (.iconst 5, 1) := by decide +kernel
theorem dL_law_197 : decode cL_law 197 = .ok (.iadd, 1) := by decide +kernel
theorem dL_law_198 : decode cL_law 198 = .ok (.iaload, 1) := by decide +kernel
theorem dL_law_199 : decode cL_law 199 = .ok (.invokevirtual 18, 3) := by decide +kernel
theorem dL_law_202 : decode cL_law 202 = .ok (.aload_n 2, 1) := by decide +kernel
theorem dL_law_203 : decode cL_law 203 = .ok (.aload_n 0, 1) := by decide +kernel
theorem dL_law_204 : decode cL_law 204 = .ok (.iload_n 3, 1) := by decide +kernel
theorem dL_law_205 : decode cL_law 205 = .ok (.iconst 1, 1) := by decide +kernel
theorem dL_law_206 : decode cL_law 206 = .ok (.iadd, 1) := by decide +kernel
theorem dL_law_207 : decode cL_law 207 = .ok (.iaload, 1) := by decide +kernel
theorem dL_law_208 : decode cL_law 208 = .ok (.aload_n 0, 1) := by decide +kernel
theorem dL_law_209 : decode cL_law 209 = .ok (.iload_n 3, 1) := by decide +kernel
theorem dL_law_210 : decode cL_law 210 = .ok (.iconst 2, 1) := by decide +kernel
theorem dL_law_211 : decode cL_law 211 = .ok (.iadd, 1) := by decide +kernel
theorem dL_law_212 : decode cL_law 212 = .ok (.iaload, 1) := by decide +kernel
theorem dL_law_213 : decode cL_law 213 = .ok (.aload_n 0, 1) := by decide +kernel
theorem dL_law_214 : decode cL_law 214 = .ok (.iload_n 3, 1) := by decide +kernel
theorem dL_law_215 : decode cL_law 215 = .ok (.iconst 3, 1) := by decide +kernel
theorem dL_law_216 : decode cL_law 216 = .ok (.iadd, 1) := by decide +kernel
theorem dL_law_217 : decode cL_law 217 = .ok (.iaload, 1) := by decide +kernel
theorem dL_law_218 : decode cL_law 218 = .ok (.aload_n 0, 1) := by decide +kernel
theorem dL_law_219 : decode cL_law 219 = .ok (.iload_n 3, 1) := by decide +kernel
theorem dL_law_220 : decode cL_law 220 = .ok (.iconst 4, 1) := by decide +kernel
theorem dL_law_221 : decode cL_law 221 = .ok (.iadd, 1) := by decide +kernel
theorem dL_law_222 : decode cL_law 222 = .ok (.iaload, 1) := by decide +kernel
theorem dL_law_223 : decode cL_law 223 = .ok (.aload_n 0, 1) := by decide +kernel
theorem dL_law_224 : decode cL_law 224 = .ok (.iload_n 3, 1) := by decide +kernel
theorem dL_law_225 : decode cL_law 225 = .ok (.iconst 5, 1) := by decide +kernel
theorem dL_law_226 : decode cL_law 226 = .ok (.iadd, 1) := by decide +kernel
theorem dL_law_227 : decode cL_law 227 = .ok (.iaload, 1) := by decide +kernel
theorem dL_law_228 : decode cL_law 228 = .ok (.invokevirtual 22, 3) := by decide +kernel
theorem dL_law_231 : decode cL_law 231 = .ok (.if_icmp .eq 604, 3) := by decide +kernel
theorem dL_law_234 : decode cL_law 234 = .ok (.iconst 0, 1) := by decide +kernel
theorem dL_law_235 : decode cL_law 235 = .ok (.ireturn, 1) := by decide +kernel
theorem dL_law_236 : decode cL_law 236 = .ok (.aload_n 1, 1) := by decide +kernel
theorem dL_law_237 : decode cL_law 237 = .ok (.aload_n 0, 1) := by decide +kernel
theorem dL_law_238 : decode cL_law 238 = .ok (.iload_n 3, 1) := by decide +kernel
theorem dL_law_239 : decode cL_law 239 = .ok (.iconst 1, 1) := by decide +kernel
theorem dL_law_240 : decode cL_law 240 = .ok (.iadd, 1) := by decide +kernel
theorem dL_law_241 : decode cL_law 241 = .ok (.iaload, 1) := by decide +kernel
theorem dL_law_242 : decode cL_law 242 = .ok (.aload_n 0, 1) := by decide +kernel
theorem dL_law_243 : decode cL_law 243 = .ok (.iload_n 3, 1) := by decide +kernel
theorem dL_law_244 : decode cL_law 244 = .ok (.iconst 2, 1) := by decide +kernel
theorem dL_law_245 : decode cL_law 245 = .ok (.iadd, 1) := by decide +kernel
theorem dL_law_246 : decode cL_law 246 = .ok (.iaload, 1) := by decide +kernel
theorem dL_law_247 : decode cL_law 247 = .ok (.aload_n 0, 1) := by decide +kernel
theorem dL_law_248 : decode cL_law 248 = .ok (.iload_n 3, 1) := by decide +kernel
theorem dL_law_249 : decode cL_law 249 = .ok (.iconst 3, 1) := by decide +kernel
theorem dL_law_250 : decode cL_law 250 = .ok (.iadd, 1) := by decide +kernel
theorem dL_law_251 : decode cL_law 251 = .ok (.iaload, 1) := by decide +kernel
theorem dL_law_252 : decode cL_law 252 = .ok (.aload_n 0, 1) := by decide +kernel
theorem dL_law_253 : decode cL_law 253 = .ok (.iload_n 3, 1) := by decide +kernel
theorem dL_law_254 : decode cL_law 254 = .ok (.iconst 4, 1) := by decide +kernel
theorem dL_law_255 : decode cL_law 255 = .ok (.iadd, 1) := by decide +kernel
theorem dL_law_256 : decode cL_law 256 = .ok (.iaload, 1) := by decide +kernel
theorem dL_law_257 : decode cL_law 257 = .ok (.invokevirtual 23, 3) := by decide +kernel
theorem dL_law_260 : decode cL_law 260 = .ok (.aload_n 2, 1) := by decide +kernel
theorem dL_law_261 : decode cL_law 261 = .ok (.aload_n 0, 1) := by decide +kernel
theorem dL_law_262 : decode cL_law 262 = .ok (.iload_n 3, 1) := by decide +kernel
theorem dL_law_263 : decode cL_law 263 = .ok (.iconst 1, 1) := by decide +kernel
theorem dL_law_264 : decode cL_law 264 = .ok (.iadd, 1) := by decide +kernel
theorem dL_law_265 : decode cL_law 265 = .ok (.iaload, 1) := by decide +kernel
theorem dL_law_266 : decode cL_law 266 = .ok (.aload_n 0, 1) := by decide +kernel
theorem dL_law_267 : decode cL_law 267 = .ok (.iload_n 3, 1) := by decide +kernel
theorem dL_law_268 : decode cL_law 268 = .ok (.iconst 2, 1) := by decide +kernel
theorem dL_law_269 : decode cL_law 269 = .ok (.iadd, 1) := by decide +kernel
theorem dL_law_270 : decode cL_law 270 = .ok (.iaload, 1) := by decide +kernel
theorem dL_law_271 : decode cL_law 271 = .ok (.aload_n 0, 1) := by decide +kernel
theorem dL_law_272 : decode cL_law 272 = .ok (.iload_n 3, 1) := by decide +kernel
theorem dL_law_273 : decode cL_law 273 = .ok (.iconst 3, 1) := by decide +kernel
theorem dL_law_274 : decode cL_law 274 = .ok (.iadd, 1) := by decide +kernel
theorem dL_law_275 : decode cL_law 275 = .ok (.iaload, 1) := by decide +kernel
theorem dL_law_276 : decode cL_law 276 = .ok (.aload_n 0, 1) := by decide +kernel
theorem dL_law_277 : decode cL_law 277 = .ok (.iload_n 3, 1) := by decide +kernel
theorem dL_law_278 : decode cL_law 278 = .ok (.iconst 4, 1) := by decide +kernel
theorem dL_law_279 : decode cL_law 279 = .ok (.iadd, 1) := by decide +kernel
theorem dL_law_280 : decode cL_law 280 = .ok (.iaload, 1) := by decide +kernel
theorem dL_law_281 : decode cL_law 281 = .ok (.invokevirtual 27, 3) := by decide +kernel
theorem dL_law_284 : decode cL_law 284 = .ok (.if_icmp .eq 551, 3) := by decide +kernel
theorem dL_law_287 : decode cL_law 287 = .ok (.iconst 0, 1) := by decide +kernel
theorem dL_law_288 : decode cL_law 288 = .ok (.ireturn, 1) := by decide +kernel
theorem dL_law_289 : decode cL_law 289 = .ok (.aload_n 1, 1) := by decide +kernel
theorem dL_law_290 : decode cL_law 290 = .ok (.aload_n 0, 1) := by decide +kernel
theorem dL_law_291 : decode cL_law 291 = .ok (.iload_n 3, 1) := by decide +kernel
theorem dL_law_292 : decode cL_law 292 = .ok (.iconst 1, 1) := by decide +kernel
theorem dL_law_293 : decode cL_law 293 = .ok (.iadd, 1) := by decide +kernel
theorem dL_law_294 : decode cL_law 294 = .ok (.iaload, 1) := by decide +kernel
theorem dL_law_295 : decode cL_law 295 = .ok (.invokevirtual 28, 3) := by decide +kernel
theorem dL_law_298 : decode cL_law 298 = .ok (.aload_n 2, 1) := by decide +kernel
theorem dL_law_299 : decode cL_law 299 = .ok (.aload_n 0, 1) := by decide +kernel
theorem dL_law_300 : decode cL_law 300 = .ok (.iload_n 3, 1) := by decide +kernel
theorem dL_law_301 : decode cL_law 301 = .ok (.iconst 1, 1) := by decide +kernel
theorem dL_law_302 : decode cL_law 302 = .ok (.iadd, 1) := by decide +kernel
theorem dL_law_303 : decode cL_law 303 = .ok (.iaload, 1) := by decide +kernel
theorem dL_law_304 : decode cL_law 304 = .ok (.invokevirtual 32, 3) := by decide +kernel
theorem dL_law_307 : decode cL_law 307 = .ok (.if_icmp .eq 528, 3) := by decide +kernel
theorem dL_law_310 : decode cL_law 310 = .ok (.iconst 0, 1) := by decide +kernel
theorem dL_law_311 : decode cL_law 311 = .ok (.ireturn, 1) := by decide +kernel
theorem dL_law_312 : decode cL_law 312 = .ok (.aload_n 1, 1) := by decide +kernel
theorem dL_law_313 : decode cL_law 313 = .ok (.aload_n 0, 1) := by decide +kernel
theorem dL_law_314 : decode cL_law 314 = .ok (.iload_n 3, 1) := by decide +kernel
theorem dL_law_315 : decode cL_law 315 = .ok (.iconst 1, 1) := by decide +kernel
theorem dL_law_316 : decode cL_law 316 = .ok (.iadd, 1) := by decide +kernel
theorem dL_law_317 : decode cL_law 317 = .ok (.iaload, 1) := by decide +kernel
theorem dL_law_318 : decode cL_law 318 = .ok (.aload_n 0, 1) := by decide +kernel
theorem dL_law_319 : decode cL_law 319 = .ok (.iload_n 3, 1) := by decide +kernel
theorem dL_law_320 : decode cL_law 320 = .ok (.iconst 2, 1) := by decide +kernel
theorem dL_law_321 : decode cL_law 321 = .ok (.iadd, 1) := by decide +kernel
theorem dL_law_322 : decode cL_law 322 = .ok (.iaload, 1) := by decide +kernel
theorem dL_law_323 : decode cL_law 323 = .ok (.invokevirtual 33, 3) := by decide +kernel
theorem dL_law_326 : decode cL_law 326 = .ok (.aload_n 2, 1) := by decide +kernel
theorem dL_law_327 : decode cL_law 327 = .ok (.aload_n 0, 1) := by decide +kernel
theorem dL_law_328 : decode cL_law 328 = .ok (.iload_n 3, 1) := by decide +kernel
theorem dL_law_329 : decode cL_law 329 = .ok (.iconst 1, 1) := by decide +kernel
theorem dL_law_330 : decode cL_law 330 = .ok (.iadd, 1) := by decide +kernel
theorem dL_law_331 : decode cL_law 331 = .ok (.iaload, 1) := by decide +kernel
theorem dL_law_332 : decode cL_law 332 = .ok (.aload_n 0, 1) := by decide +kernel
theorem dL_law_333 : decode cL_law 333 = .ok (.iload_n 3, 1) := by decide +kernel
theorem dL_law_334 : decode cL_law 334 = .ok (.iconst 2, 1) := by decide +kernel
theorem dL_law_335 : decode cL_law 335 = .ok (.iadd, 1) := by decide +kernel
theorem dL_law_336 : decode cL_law 336 = .ok (.iaload, 1) := by decide +kernel
theorem dL_law_337 : decode cL_law 337 = .ok (.invokevirtual 36, 3) := by decide +kernel
theorem dL_law_340 : decode cL_law 340 = .ok (.if_icmp .eq 495, 3) := by decide +kernel
theorem dL_law_343 : decode cL_law 343 = .ok (.iconst 0, 1) := by decide +kernel
theorem dL_law_344 : decode cL_law 344 = .ok (.ireturn, 1) := by decide +kernel
theorem dL_law_345 : decode cL_law 345 = .ok (.aload_n 1, 1) := by decide +kernel
theorem dL_law_346 : decode cL_law 346 = .ok (.invokevirtual 37, 3) := by decide +kernel
theorem dL_law_349 : decode cL_law 349 = .ok (.aload_n 2, 1) := by decide +kernel
theorem dL_law_350 : decode cL_law 350 = .ok (.invokevirtual 41, 3) := by decide +kernel
theorem dL_law_353 : decode cL_law 353 = .ok (.if_icmp .eq 482, 3) := by decide +kernel
theorem dL_law_356 : decode cL_law 356 = .ok (.iconst 0, 1) := by decide +kernel
theorem dL_law_357 : decode cL_law 357 = .ok (.ireturn, 1) := by decide +kernel
theorem dL_law_358 : decode cL_law 358 = .ok (.aload_n 1, 1) := by decide +kernel
theorem dL_law_359 : decode cL_law 359 = .ok (.aload_n 0, 1) := by decide +kernel
theorem dL_law_360 : decode cL_law 360 = .ok (.iload_n 3, 1) := by decide +kernel
theorem dL_law_361 : decode cL_law 361 = .ok (.iconst 1, 1) := by decide +kernel
theorem dL_law_362 : decode cL_law 362 = .ok (.iadd, 1) := by decide +kernel
theorem dL_law_363 : decode cL_law 363 = .ok (.iaload, 1) := by decide +kernel
theorem dL_law_364 : decode cL_law 364 = .ok (.invokevirtual 42, 3) := by decide +kernel
theorem dL_law_367 : decode cL_law 367 = .ok (.aload_n 2, 1) := by decide +kernel
theorem dL_law_368 : decode cL_law 368 = .ok (.aload_n 0, 1) := by decide +kernel
theorem dL_law_369 : decode cL_law 369 = .ok (.iload_n 3, 1) := by decide +kernel
theorem dL_law_370 : decode cL_law 370 = .ok (.iconst 1, 1) := by decide +kernel
theorem dL_law_371 : decode cL_law 371 = .ok (.iadd, 1) := by decide +kernel
theorem dL_law_372 : decode cL_law 372 = .ok (.iaload, 1) := by decide +kernel
theorem dL_law_373 : decode cL_law 373 = .ok (.invokevirtual 45, 3) := by decide +kernel
theorem dL_law_376 : decode cL_law 376 = .ok (.if_icmp .eq 459, 3) := by decide +kernel
theorem dL_law_379 : decode cL_law 379 = .ok (.iconst 0, 1) := by decide +kernel
theorem dL_law_380 : decode cL_law 380 = .ok (.ireturn, 1) := by decide +kernel
theorem dL_law_381 : decode cL_law 381 = .ok (.aload_n 1, 1) := by decide +kernel
theorem dL_law_382 : decode cL_law 382 = .ok (.aload_n 0, 1) := by decide +kernel
theorem dL_law_383 : decode cL_law 383 = .ok (.iload_n 3, 1) := by decide +kernel
theorem dL_law_384 : decode cL_law 384 = .ok (.iconst 1, 1) := by decide +kernel
theorem dL_law_385 : decode cL_law 385 = .ok (.iadd, 1) := by decide +kernel
theorem dL_law_386 : decode cL_law 386 = .ok (.iaload, 1) := by decide +kernel
theorem dL_law_387 : decode cL_law 387 = .ok (.aload_n 0, 1) := by decide +kernel
theorem dL_law_388 : decode cL_law 388 = .ok (.iload_n 3, 1) := by decide +kernel
theorem dL_law_389 : decode cL_law 389 = .ok (.iconst 2, 1) := by decide +kernel
theorem dL_law_390 : decode cL_law 390 = .ok (.iadd, 1) := by decide +kernel
theorem dL_law_391 : decode cL_law 391 = .ok (.iaload, 1) := by decide +kernel
theorem dL_law_392 : decode cL_law 392 = .ok (.invokevirtual 46, 3) := by decide +kernel
theorem dL_law_395 : decode cL_law 395 = .ok (.aload_n 2, 1) := by decide +kernel
theorem dL_law_396 : decode cL_law 396 = .ok (.aload_n 0, 1) := by decide +kernel
theorem dL_law_397 : decode cL_law 397 = .ok (.iload_n 3, 1) := by decide +kernel
theorem dL_law_398 : decode cL_law 398 = .ok (.iconst 1, 1) := by decide +kernel
theorem dL_law_399 : decode cL_law 399 = .ok (.iadd, 1) := by decide +kernel
theorem dL_law_400 : decode cL_law 400 = .ok (.iaload, 1) := by decide +kernel
theorem dL_law_401 : decode cL_law 401 = .ok (.aload_n 0, 1) := by decide +kernel
theorem dL_law_402 : decode cL_law 402 = .ok (.iload_n 3, 1) := by decide +kernel
theorem dL_law_403 : decode cL_law 403 = .ok (.iconst 2, 1) := by decide +kernel
theorem dL_law_404 : decode cL_law 404 = .ok (.iadd, 1) := by decide +kernel
theorem dL_law_405 : decode cL_law 405 = .ok (.iaload, 1) := by decide +kernel
theorem dL_law_406 : decode cL_law 406 = .ok (.invokevirtual 49, 3) := by decide +kernel
theorem dL_law_409 : decode cL_law 409 = .ok (.if_icmp .eq 426, 3) := by decide +kernel
theorem dL_law_412 : decode cL_law 412 = .ok (.iconst 0, 1) := by decide +kernel
theorem dL_law_413 : decode cL_law 413 = .ok (.ireturn, 1) := by decide +kernel
theorem dL_law_414 : decode cL_law 414 = .ok (.aload_n 1, 1) := by decide +kernel
theorem dL_law_415 : decode cL_law 415 = .ok (.aload_n 0, 1) := by decide +kernel
theorem dL_law_416 : decode cL_law 416 = .ok (.iload_n 3, 1) := by decide +kernel
theorem dL_law_417 : decode cL_law 417 = .ok (.iconst 1, 1) := by decide +kernel
theorem dL_law_418 : decode cL_law 418 = .ok (.iadd, 1) := by decide +kernel
theorem dL_law_419 : decode cL_law 419 = .ok (.iaload, 1) := by decide +kernel
theorem dL_law_420 : decode cL_law 420 = .ok (.invokevirtual 50, 3) := by decide +kernel
theorem dL_law_423 : decode cL_law 423 = .ok (.aload_n 2, 1) := by decide +kernel
theorem dL_law_424 : decode cL_law 424 = .ok (.aload_n 0, 1) := by decide +kernel
theorem dL_law_425 : decode cL_law 425 = .ok (.iload_n 3, 1) := by decide +kernel
theorem dL_law_426 : decode cL_law 426 = .ok (.iconst 1, 1) := by decide +kernel
theorem dL_law_427 : decode cL_law 427 = .ok (.iadd, 1) := by decide +kernel
theorem dL_law_428 : decode cL_law 428 = .ok (.iaload, 1) := by decide +kernel
theorem dL_law_429 : decode cL_law 429 = .ok (.invokevirtual 53, 3) := by decide +kernel
theorem dL_law_432 : decode cL_law 432 = .ok (.if_icmp .eq 403, 3) := by decide +kernel
theorem dL_law_435 : decode cL_law 435 = .ok (.iconst 0, 1) := by decide +kernel
theorem dL_law_436 : decode cL_law 436 = .ok (.ireturn, 1) := by decide +kernel
theorem dL_law_437 : decode cL_law 437 = .ok (.aload_n 1, 1) := by decide +kernel
theorem dL_law_438 : decode cL_law 438 = .ok (.aload_n 0, 1) := by decide +kernel
theorem dL_law_439 : decode cL_law 439 = .ok (.iload_n 3, 1) := by decide +kernel
theorem dL_law_440 : decode cL_law 440 = .ok (.iconst 1, 1) := by decide +kernel
theorem dL_law_441 : decode cL_law 441 = .ok (.iadd, 1) := by decide +kernel
theorem dL_law_442 : decode cL_law 442 = .ok (.iaload, 1) := by decide +kernel
theorem dL_law_443 : decode cL_law 443 = .ok (.invokevirtual 54, 3) := by decide +kernel
theorem dL_law_446 : decode cL_law 446 = .ok (.aload_n 2, 1) := by decide +kernel
theorem dL_law_447 : decode cL_law 447 = .ok (.aload_n 0, 1) := by decide +kernel
theorem dL_law_448 : decode cL_law 448 = .ok (.iload_n 3, 1) := by decide +kernel
theorem dL_law_449 : decode cL_law 449 = .ok (.iconst 1, 1) := by decide +kernel
theorem dL_law_450 : decode cL_law 450 = .ok (.iadd, 1) := by decide +kernel
theorem dL_law_451 : decode cL_law 451 = .ok (.iaload, 1) := by decide +kernel
theorem dL_law_452 : decode cL_law 452 = .ok (.invokevirtual 57, 3) := by decide +kernel
theorem dL_law_455 : decode cL_law 455 = .ok (.if_icmp .eq 380, 3) := by decide +kernel
theorem dL_law_458 : decode cL_law 458 = .ok (.iconst 0, 1) := by decide +kernel
theorem dL_law_459 : decode cL_law 459 = .ok (.ireturn, 1) := by decide +kernel
theorem dL_law_460 : decode cL_law 460 = .ok (.aload_n 1, 1) := by decide +kernel
theorem dL_law_461 : decode cL_law 461 = .ok (.aload_n 0, 1) := by decide +kernel
theorem dL_law_462 : decode cL_law 462 = .ok (.iload_n 3, 1) := by decide +kernel
theorem dL_law_463 : decode cL_law 463 = .ok (.iconst 1, 1) := by decide +kernel
theorem dL_law_464 : decode cL_law 464 = .ok (.iadd, 1) := by decide +kernel
theorem dL_law_465 : decode cL_law 465 = .ok (.iaload, 1) := by decide +kernel
theorem dL_law_466 : decode cL_law 466 = .ok (.aload_n 0, 1) := by decide +kernel
theorem dL_law_467 : decode cL_law 467 = .ok (.iload_n 3, 1) := by decide +kernel
theorem dL_law_468 : decode cL_law 468 = .ok (.iconst 2, 1) := by decide +kernel
theorem dL_law_469 : decode cL_law 469 = .ok (.iadd, 1) := by decide +kernel
theorem dL_law_470 : decode cL_law 470 = .ok (.iaload, 1) := by decide +kernel
theorem dL_law_471 : decode cL_law 471 = .ok (.invokevirtual 58, 3) := by decide +kernel
theorem dL_law_474 : decode cL_law 474 = .ok (.aload_n 2, 1) := by decide +kernel
theorem dL_law_475 : decode cL_law 475 = .ok (.aload_n 0, 1) := by decide +kernel
theorem dL_law_476 : decode cL_law 476 = .ok (.iload_n 3, 1) := by decide +kernel
theorem dL_law_477 : decode cL_law 477 = .ok (.iconst 1, 1) := by decide +kernel
theorem dL_law_478 : decode cL_law 478 = .ok (.iadd, 1) := by decide +kernel
theorem dL_law_479 : decode cL_law 479 = .ok (.iaload, 1) := by decide +kernel
theorem dL_law_480 : decode cL_law 480 = .ok (.aload_n 0, 1) := by decide +kernel
theorem dL_law_481 : decode cL_law 481 = .ok (.iload_n 3, 1) := by decide +kernel
theorem dL_law_482 : decode cL_law 482 = .ok (.iconst 2, 1) := by decide +kernel
theorem dL_law_483 : decode cL_law 483 = .ok (.iadd, 1) := by decide +kernel
theorem dL_law_484 : decode cL_law 484 = .ok (.iaload, 1) := by decide +kernel
theorem dL_law_485 : decode cL_law 485 = .ok (.invokevirtual 61, 3) := by decide +kernel
theorem dL_law_488 : decode cL_law 488 = .ok (.if_icmp .eq 347, 3) := by decide +kernel
theorem dL_law_491 : decode cL_law 491 = .ok (.iconst 0, 1) := by decide +kernel
theorem dL_law_492 : decode cL_law 492 = .ok (.ireturn, 1) := by decide +kernel
theorem dL_law_493 : decode cL_law 493 = .ok (.aload_n 1, 1) := by decide +kernel
theorem dL_law_494 : decode cL_law 494 = .ok (.aload_n 0, 1) := by decide +kernel
theorem dL_law_495 : decode cL_law 495 = .ok (.iload_n 3, 1) := by decide +kernel
theorem dL_law_496 : decode cL_law 496 = .ok (.iconst 1, 1) := by decide +kernel
theorem dL_law_497 : decode cL_law 497 = .ok (.iadd, 1) := by decide +kernel
theorem dL_law_498 : decode cL_law 498 = .ok (.iaload, 1) := by decide +kernel
theorem dL_law_499 : decode cL_law 499 = .ok (.invokevirtual 62, 3) := by decide +kernel
theorem dL_law_502 : decode cL_law 502 = .ok (.aload_n 2, 1) := by decide +kernel
theorem dL_law_503 : decode cL_law 503 = .ok (.aload_n 0, 1) := by decide +kernel
theorem dL_law_504 : decode cL_law 504 = .ok (.iload_n 3, 1) := by decide +kernel
theorem dL_law_505 : decode cL_law 505 = .ok (.iconst 1, 1) := by decide +kernel
theorem dL_law_506 : decode cL_law 506 = .ok (.iadd, 1) := by decide +kernel
theorem dL_law_507 : decode cL_law 507 = .ok (.iaload, 1) := by decide +kernel
theorem dL_law_508 : decode cL_law 508 = .ok (.invokevirtual 65, 3) := by decide +kernel
theorem dL_law_511 : decode cL_law 511 = .ok (.if_icmp .eq 324, 3) := by decide +kernel
theorem dL_law_514 : decode cL_law 514 = .ok (.iconst 0, 1) := by decide +kernel
theorem dL_law_515 : decode cL_law 515 = .ok (.ireturn, 1) := by decide +kernel
theorem dL_law_516 : decode cL_law 516 = .ok (.aload_n 1, 1) := by decide +kernel
theorem dL_law_517 : decode cL_law 517 = .ok (.aload_n 0, 1) := by decide +kernel
theorem dL_law_518 : decode cL_law 518 = .ok (.iload_n 3, 1) := by decide +kernel
theorem dL_law_519 : decode cL_law 519 = .ok (.iconst 1, 1) := by decide +kernel
theorem dL_law_520 : decode cL_law 520 = .ok (.iadd, 1) := by decide +kernel
theorem dL_law_521 : decode cL_law 521 = .ok (.iaload, 1) := by decide +kernel
theorem dL_law_522 : decode cL_law 522 = .ok (.invokevirtual 66, 3) := by decide +kernel
theorem dL_law_525 : decode cL_law 525 = .ok (.aload_n 2, 1) := by decide +kernel
theorem dL_law_526 : decode cL_law 526 = .ok (.aload_n 0, 1) := by decide +kernel
theorem dL_law_527 : decode cL_law 527 = .ok (.iload_n 3, 1) := by decide +kernel
theorem dL_law_528 : decode cL_law 528 = .ok (.iconst 1, 1) := by decide +kernel
theorem dL_law_529 : decode cL_law 529 = .ok (.iadd, 1) := by decide +kernel
theorem dL_law_530 : decode cL_law 530 = .ok (.iaload, 1) := by decide +kernel
theorem dL_law_531 : decode cL_law 531 = .ok (.invokevirtual 69, 3) := by decide +kernel
theorem dL_law_534 : decode cL_law 534 = .ok (.if_icmp .eq 301, 3) := by decide +kernel
theorem dL_law_537 : decode cL_law 537 = .ok (.iconst 0, 1) := by decide +kernel
theorem dL_law_538 : decode cL_law 538 = .ok (.ireturn, 1) := by decide +kernel
theorem dL_law_539 : decode cL_law 539 = .ok (.aload_n 1, 1) := by decide +kernel
theorem dL_law_540 : decode cL_law 540 = .ok (.aload_n 0, 1) := by decide +kernel
theorem dL_law_541 : decode cL_law 541 = .ok (.iload_n 3, 1) := by decide +kernel
theorem dL_law_542 : decode cL_law 542 = .ok (.iconst 1, 1) := by decide +kernel
theorem dL_law_543 : decode cL_law 543 = .ok (.iadd, 1) := by decide +kernel
theorem dL_law_544 : decode cL_law 544 = .ok (.iaload, 1) := by decide +kernel
theorem dL_law_545 : decode cL_law 545 = .ok (.aload_n 0, 1) := by decide +kernel
theorem dL_law_546 : decode cL_law 546 = .ok (.iload_n 3, 1) := by decide +kernel
theorem dL_law_547 : decode cL_law 547 = .ok (.iconst 2, 1) := by decide +kernel
theorem dL_law_548 : decode cL_law 548 = .ok (.iadd, 1) := by decide +kernel
theorem dL_law_549 : decode cL_law 549 = .ok (.iaload, 1) := by decide +kernel
theorem dL_law_550 : decode cL_law 550 = .ok (.aload_n 0, 1) := by decide +kernel
theorem dL_law_551 : decode cL_law 551 = .ok (.iload_n 3, 1) := by decide +kernel
theorem dL_law_552 : decode cL_law 552 = .ok (.iconst 3, 1) := by decide +kernel
theorem dL_law_553 : decode cL_law 553 = .ok (.iadd, 1) := by decide +kernel
theorem dL_law_554 : decode cL_law 554 = .ok (.iaload, 1) := by decide +kernel
theorem dL_law_555 : decode cL_law 555 = .ok (.invokevirtual 70, 3) := by decide +kernel
theorem dL_law_558 : decode cL_law 558 = .ok (.aload_n 2, 1) := by decide +kernel
theorem dL_law_559 : decode cL_law 559 = .ok (.aload_n 0, 1) := by decide +kernel
theorem dL_law_560 : decode cL_law 560 = .ok (.iload_n 3, 1) := by decide +kernel
theorem dL_law_561 : decode cL_law 561 = .ok (.iconst 1, 1) := by decide +kernel
theorem dL_law_562 : decode cL_law 562 = .ok (.iadd, 1) := by decide +kernel
theorem dL_law_563 : decode cL_law 563 = .ok (.iaload, 1) := by decide +kernel
theorem dL_law_564 : decode cL_law 564 = .ok (.aload_n 0, 1) := by decide +kernel
theorem dL_law_565 : decode cL_law 565 = .ok (.iload_n 3, 1) := by decide +kernel
theorem dL_law_566 : decode cL_law 566 = .ok (.iconst 2, 1) := by decide +kernel
theorem dL_law_567 : decode cL_law 567 = .ok (.iadd, 1) := by decide +kernel
theorem dL_law_568 : decode cL_law 568 = .ok (.iaload, 1) := by decide +kernel
theorem dL_law_569 : decode cL_law 569 = .ok (.aload_n 0, 1) := by decide +kernel
theorem dL_law_570 : decode cL_law 570 = .ok (.iload_n 3, 1) := by decide +kernel
theorem dL_law_571 : decode cL_law 571 = .ok (.iconst 3, 1) := by decide +kernel
theorem dL_law_572 : decode cL_law 572 = .ok (.iadd, 1) := by decide +kernel
theorem dL_law_573 : decode cL_law 573 = .ok (.iaload, 1) := by decide +kernel
theorem dL_law_574 : decode cL_law 574 = .ok (.invokevirtual 74, 3) := by decide +kernel
theorem dL_law_577 : decode cL_law 577 = .ok (.if_icmp .eq 258, 3) := by decide +kernel
theorem dL_law_580 : decode cL_law 580 = .ok (.iconst 0, 1) := by decide +kernel
theorem dL_law_581 : decode cL_law 581 = .ok (.ireturn, 1) := by decide +kernel
theorem dL_law_582 : decode cL_law 582 = .ok (.aload_n 1, 1) := by decide +kernel
theorem dL_law_583 : decode cL_law 583 = .ok (.aload_n 0, 1) := by decide +kernel
theorem dL_law_584 : decode cL_law 584 = .ok (.iload_n 3, 1) := by decide +kernel
theorem dL_law_585 : decode cL_law 585 = .ok (.iconst 1, 1) := by decide +kernel
theorem dL_law_586 : decode cL_law 586 = .ok (.iadd, 1) := by decide +kernel
theorem dL_law_587 : decode cL_law 587 = .ok (.iaload, 1) := by decide +kernel
theorem dL_law_588 : decode cL_law 588 = .ok (.invokevirtual 75, 3) := by decide +kernel
theorem dL_law_591 : decode cL_law 591 = .ok (.aload_n 2, 1) := by decide +kernel
theorem dL_law_592 : decode cL_law 592 = .ok (.aload_n 0, 1) := by decide +kernel
theorem dL_law_593 : decode cL_law 593 = .ok (.iload_n 3, 1) := by decide +kernel
theorem dL_law_594 : decode cL_law 594 = .ok (.iconst 1, 1) := by decide +kernel
theorem dL_law_595 : decode cL_law 595 = .ok (.iadd, 1) := by decide +kernel
theorem dL_law_596 : decode cL_law 596 = .ok (.iaload, 1) := by decide +kernel
theorem dL_law_597 : decode cL_law 597 = .ok (.invokevirtual 78, 3) := by decide +kernel
theorem dL_law_600 : decode cL_law 600 = .ok (.if_icmp .eq 235, 3) := by decide +kernel
theorem dL_law_603 : decode cL_law 603 = .ok (.iconst 0, 1) := by decide +kernel
theorem dL_law_604 : decode cL_law 604 = .ok (.ireturn, 1) := by decide +kernel
theorem dL_law_605 : decode cL_law 605 = .ok (.aload_n 1, 1) := by decide +kernel
theorem dL_law_606 : decode cL_law 606 = .ok (.aload_n 0, 1) := by decide +kernel
theorem dL_law_607 : decode cL_law 607 = .ok (.iload_n 3, 1) := by decide +kernel
theorem dL_law_608 : decode cL_law 608 = .ok (.iconst 1, 1) := by decide +kernel
theorem dL_law_609 : decode cL_law 609 = .ok (.iadd, 1) := by decide +kernel
theorem dL_law_610 : decode cL_law 610 = .ok (.iaload, 1) := by decide +kernel
theorem dL_law_611 : decode cL_law 611 = .ok (.aload_n 0, 1) := by decide +kernel
theorem dL_law_612 : decode cL_law 612 = .ok (.iload_n 3, 1) := by decide +kernel
theorem dL_law_613 : decode cL_law 613 = .ok (.iconst 2, 1) := by decide +kernel
theorem dL_law_614 : decode cL_law 614 = .ok (.iadd, 1) := by decide +kernel
theorem dL_law_615 : decode cL_law 615 = .ok (.iaload, 1) := by decide +kernel
theorem dL_law_616 : decode cL_law 616 = .ok (.invokevirtual 79, 3) := by decide +kernel
theorem dL_law_619 : decode cL_law 619 = .ok (.aload_n 2, 1) := by decide +kernel
theorem dL_law_620 : decode cL_law 620 = .ok (.aload_n 0, 1) := by decide +kernel
theorem dL_law_621 : decode cL_law 621 = .ok (.iload_n 3, 1) := by decide +kernel
theorem dL_law_622 : decode cL_law 622 = .ok (.iconst 1, 1) := by decide +kernel
theorem dL_law_623 : decode cL_law 623 = .ok (.iadd, 1) := by decide +kernel
theorem dL_law_624 : decode cL_law 624 = .ok (.iaload, 1) := by decide +kernel
theorem dL_law_625 : decode cL_law 625 = .ok (.aload_n 0, 1) := by decide +kernel
theorem dL_law_626 : decode cL_law 626 = .ok (.iload_n 3, 1) := by decide +kernel
theorem dL_law_627 : decode cL_law 627 = .ok (.iconst 2, 1) := by decide +kernel
theorem dL_law_628 : decode cL_law 628 = .ok (.iadd, 1) := by decide +kernel
theorem dL_law_629 : decode cL_law 629 = .ok (.iaload, 1) := by decide +kernel
theorem dL_law_630 : decode cL_law 630 = .ok (.invokevirtual 82, 3) := by decide +kernel
theorem dL_law_633 : decode cL_law 633 = .ok (.if_icmp .eq 202, 3) := by decide +kernel
theorem dL_law_636 : decode cL_law 636 = .ok (.iconst 0, 1) := by decide +kernel
theorem dL_law_637 : decode cL_law 637 = .ok (.ireturn, 1) := by decide +kernel
theorem dL_law_638 : decode cL_law 638 = .ok (.aload_n 1, 1) := by decide +kernel
theorem dL_law_639 : decode cL_law 639 = .ok (.aload_n 0, 1) := by decide +kernel
theorem dL_law_640 : decode cL_law 640 = .ok (.iload_n 3, 1) := by decide +kernel
theorem dL_law_641 : decode cL_law 641 = .ok (.iconst 1, 1) := by decide +kernel
theorem dL_law_642 : decode cL_law 642 = .ok (.iadd, 1) := by decide +kernel
theorem dL_law_643 : decode cL_law 643 = .ok (.iaload, 1) := by decide +kernel
theorem dL_law_644 : decode cL_law 644 = .ok (.invokevirtual 83, 3) := by decide +kernel
theorem dL_law_647 : decode cL_law 647 = .ok (.aload_n 2, 1) := by decide +kernel
theorem dL_law_648 : decode cL_law 648 = .ok (.aload_n 0, 1) := by decide +kernel
theorem dL_law_649 : decode cL_law 649 = .ok (.iload_n 3, 1) := by decide +kernel
theorem dL_law_650 : decode cL_law 650 = .ok (.iconst 1, 1) := by decide +kernel
theorem dL_law_651 : decode cL_law 651 = .ok (.iadd, 1) := by decide +kernel
theorem dL_law_652 : decode cL_law 652 = .ok (.iaload, 1) := by decide +kernel
theorem dL_law_653 : decode cL_law 653 = .ok (.invokevirtual 86, 3) := by decide +kernel
theorem dL_law_656 : decode cL_law 656 = .ok (.if_icmp .eq 179, 3) := by decide +kernel
theorem dL_law_659 : decode cL_law 659 = .ok (.iconst 0, 1) := by decide +kernel
theorem dL_law_660 : decode cL_law 660 = .ok (.ireturn, 1) := by decide +kernel
theorem dL_law_661 : decode cL_law 661 = .ok (.aload_n 1, 1) := by decide +kernel
theorem dL_law_662 : decode cL_law 662 = .ok (.aload_n 0, 1) := by decide +kernel
theorem dL_law_663 : decode cL_law 663 = .ok (.iload_n 3, 1) := by decide +kernel
theorem dL_law_664 : decode cL_law 664 = .ok (.iconst 1, 1) := by decide +kernel
theorem dL_law_665 : decode cL_law 665 = .ok (.iadd, 1) := by decide +kernel
theorem dL_law_666 : decode cL_law 666 = .ok (.iaload, 1) := by decide +kernel
theorem dL_law_667 : decode cL_law 667 = .ok (.ifCond .eq 7, 3) := by decide +kernel
theorem dL_law_670 : decode cL_law 670 = .ok (.iconst 1, 1) := by decide +kernel
theorem dL_law_671 : decode cL_law 671 = .ok (.goto 4, 3) := by decide +kernel
theorem dL_law_674 : decode cL_law 674 = .ok (.iconst 0, 1) := by decide +kernel
theorem dL_law_675 : decode cL_law 675 = .ok (.invokevirtual 87, 3) := by decide +kernel
theorem dL_law_678 : decode cL_law 678 = .ok (.aload_n 2, 1) := by decide +kernel
theorem dL_law_679 : decode cL_law 679 = .ok (.aload_n 0, 1) := by decide +kernel
theorem dL_law_680 : decode cL_law 680 = .ok (.iload_n 3, 1) := by decide +kernel
theorem dL_law_681 : decode cL_law 681 = .ok (.iconst 1, 1) := by decide +kernel
theorem dL_law_682 : decode cL_law 682 = .ok (.iadd, 1) := by decide +kernel
theorem dL_law_683 : decode cL_law 683 = .ok (.iaload, 1) := by decide +kernel
theorem dL_law_684 : decode cL_law 684 = .ok (.ifCond .eq 7, 3) := by decide +kernel
theorem dL_law_687 : decode cL_law 687 = .ok (.iconst 1, 1) := by decide +kernel
theorem dL_law_688 : decode cL_law 688 = .ok (.goto 4, 3) := by decide +kernel
theorem dL_law_691 : decode cL_law 691 = .ok (.iconst 0, 1) := by decide +kernel
theorem dL_law_692 : decode cL_law 692 = .ok (.invokevirtual 91, 3) := by decide +kernel
theorem dL_law_695 : decode cL_law 695 = .ok (.if_icmp .eq 140, 3) := by decide +kernel
theorem dL_law_698 : decode cL_law 698 = .ok (.iconst 0, 1) := by decide +kernel
theorem dL_law_699 : decode cL_law 699 = .ok (.ireturn, 1) := by decide +kernel
theorem dL_law_700 : decode cL_law 700 = .ok (.aload_n 1, 1) := by decide +kernel
theorem dL_law_701 : decode cL_law 701 = .ok (.aload_n 0, 1) := by decide +kernel
theorem dL_law_702 : decode cL_law 702 = .ok (.iload_n 3, 1) := by decide +kernel
theorem dL_law_703 : decode cL_law 703 = .ok (.iconst 1, 1) := by decide +kernel
theorem dL_law_704 : decode cL_law 704 = .ok (.iadd, 1) := by decide +kernel
theorem dL_law_705 : decode cL_law 705 = .ok (.iaload, 1) := by decide +kernel
theorem dL_law_706 : decode cL_law 706 = .ok (.aload_n 0, 1) := by decide +kernel
theorem dL_law_707 : decode cL_law 707 = .ok (.iload_n 3, 1) := by decide +kernel
theorem dL_law_708 : decode cL_law 708 = .ok (.iconst 2, 1) := by decide +kernel
theorem dL_law_709 : decode cL_law 709 = .ok (.iadd, 1) := by decide +kernel
theorem dL_law_710 : decode cL_law 710 = .ok (.iaload, 1) := by decide +kernel
theorem dL_law_711 : decode cL_law 711 = .ok (.invokevirtual 92, 3) := by decide +kernel
theorem dL_law_714 : decode cL_law 714 = .ok (.aload_n 2, 1) := by decide +kernel
theorem dL_law_715 : decode cL_law 715 = .ok (.aload_n 0, 1) := by decide +kernel
theorem dL_law_716 : decode cL_law 716 = .ok (.iload_n 3, 1) := by decide +kernel
theorem dL_law_717 : decode cL_law 717 = .ok (.iconst 1, 1) := by decide +kernel
theorem dL_law_718 : decode cL_law 718 = .ok (.iadd, 1) := by decide +kernel
theorem dL_law_719 : decode cL_law 719 = .ok (.iaload, 1) := by decide +kernel
theorem dL_law_720 : decode cL_law 720 = .ok (.aload_n 0, 1) := by decide +kernel
theorem dL_law_721 : decode cL_law 721 = .ok (.iload_n 3, 1) := by decide +kernel
theorem dL_law_722 : decode cL_law 722 = .ok (.iconst 2, 1) := by decide +kernel
theorem dL_law_723 : decode cL_law 723 = .ok (.iadd, 1) := by decide +kernel
theorem dL_law_724 : decode cL_law 724 = .ok (.iaload, 1) := by decide +kernel
theorem dL_law_725 : decode cL_law 725 = .ok (.invokevirtual 95, 3) := by decide +kernel
theorem dL_law_728 : decode cL_law 728 = .ok (.if_icmp .eq 107, 3) := by decide +kernel
theorem dL_law_731 : decode cL_law 731 = .ok (.iconst 0, 1) := by decide +kernel
theorem dL_law_732 : decode cL_law 732 = .ok (.ireturn, 1) := by decide +kernel
theorem dL_law_733 : decode cL_law 733 = .ok (.aload_n 1, 1) := by decide +kernel
theorem dL_law_734 : decode cL_law 734 = .ok (.aload_n 0, 1) := by decide +kernel
theorem dL_law_735 : decode cL_law 735 = .ok (.iload_n 3, 1) := by decide +kernel
theorem dL_law_736 : decode cL_law 736 = .ok (.iconst 1, 1) := by decide +kernel
theorem dL_law_737 : decode cL_law 737 = .ok (.iadd, 1) := by decide +kernel
theorem dL_law_738 : decode cL_law 738 = .ok (.iaload, 1) := by decide +kernel
theorem dL_law_739 : decode cL_law 739 = .ok (.invokevirtual 96, 3) := by decide +kernel
theorem dL_law_742 : decode cL_law 742 = .ok (.aload_n 2, 1) := by decide +kernel
theorem dL_law_743 : decode cL_law 743 = .ok (.aload_n 0, 1) := by decide +kernel
theorem dL_law_744 : decode cL_law 744 = .ok (.iload_n 3, 1) := by decide +kernel
theorem dL_law_745 : decode cL_law 745 = .ok (.iconst 1, 1) := by decide +kernel
theorem dL_law_746 : decode cL_law 746 = .ok (.iadd, 1) := by decide +kernel
theorem dL_law_747 : decode cL_law 747 = .ok (.iaload, 1) := by decide +kernel
theorem dL_law_748 : decode cL_law 748 = .ok (.invokevirtual 99, 3) := by decide +kernel
theorem dL_law_751 : decode cL_law 751 = .ok (.if_icmp .eq 84, 3) := by decide +kernel
theorem dL_law_754 : decode cL_law 754 = .ok (.iconst 0, 1) := by decide +kernel
theorem dL_law_755 : decode cL_law 755 = .ok (.ireturn, 1) := by decide +kernel
theorem dL_law_756 : decode cL_law 756 = .ok (.aload_n 1, 1) := by decide +kernel
theorem dL_law_757 : decode cL_law 757 = .ok (.aload_n 0, 1) := by decide +kernel
theorem dL_law_758 : decode cL_law 758 = .ok (.iload_n 3, 1) := by decide +kernel
theorem dL_law_759 : decode cL_law 759 = .ok (.iconst 1, 1) := by decide +kernel
theorem dL_law_760 : decode cL_law 760 = .ok (.iadd, 1) := by decide +kernel
theorem dL_law_761 : decode cL_law 761 = .ok (.iaload, 1) := by decide +kernel
theorem dL_law_762 : decode cL_law 762 = .ok (.invokevirtual 100, 3) := by decide +kernel
theorem dL_law_765 : decode cL_law 765 = .ok (.aload_n 2, 1) := by decide +kernel
theorem dL_law_766 : decode cL_law 766 = .ok (.aload_n 0, 1) := by decide +kernel
theorem dL_law_767 : decode cL_law 767 = .ok (.iload_n 3, 1) := by decide +kernel
theorem dL_law_768 : decode cL_law 768 = .ok (.iconst 1, 1) := by decide +kernel
theorem dL_law_769 : decode cL_law 769 = .ok (.iadd, 1) := by decide +kernel
theorem dL_law_770 : decode cL_law 770 = .ok (.iaload, 1) := by decide +kernel
theorem dL_law_771 : decode cL_law 771 = .ok (.invokevirtual 103, 3) := by decide +kernel
theorem dL_law_774 : decode cL_law 774 = .ok (.if_icmp .eq 61, 3) := by decide +kernel
theorem dL_law_777 : decode cL_law 777 = .ok (.iconst 0, 1) := by decide +kernel
theorem dL_law_778 : decode cL_law 778 = .ok (.ireturn, 1) := by decide +kernel
theorem dL_law_779 : decode cL_law 779 = .ok (.aload_n 1, 1) := by decide +kernel
theorem dL_law_780 : decode cL_law 780 = .ok (.aload_n 0, 1) := by decide +kernel
theorem dL_law_781 : decode cL_law 781 = .ok (.iload_n 3, 1) := by decide +kernel
theorem dL_law_782 : decode cL_law 782 = .ok (.iconst 1, 1) := by decide +kernel
theorem dL_law_783 : decode cL_law 783 = .ok (.iadd, 1) := by decide +kernel
theorem dL_law_784 : decode cL_law 784 = .ok (.iaload, 1) := by decide +kernel
theorem dL_law_785 : decode cL_law 785 = .ok (.invokevirtual 104, 3) := by decide +kernel
theorem dL_law_788 : decode cL_law 788 = .ok (.aload_n 2, 1) := by decide +kernel
theorem dL_law_789 : decode cL_law 789 = .ok (.aload_n 0, 1) := by decide +kernel
theorem dL_law_790 : decode cL_law 790 = .ok (.iload_n 3, 1) := by decide +kernel
theorem dL_law_791 : decode cL_law 791 = .ok (.iconst 1, 1) := by decide +kernel
theorem dL_law_792 : decode cL_law 792 = .ok (.iadd, 1) := by decide +kernel
theorem dL_law_793 : decode cL_law 793 = .ok (.iaload, 1) := by decide +kernel
theorem dL_law_794 : decode cL_law 794 = .ok (.invokevirtual 107, 3) := by decide +kernel
theorem dL_law_797 : decode cL_law 797 = .ok (.if_icmp .eq 38, 3) := by decide +kernel
theorem dL_law_800 : decode cL_law 800 = .ok (.iconst 0, 1) := by decide +kernel
theorem dL_law_801 : decode cL_law 801 = .ok (.ireturn, 1) := by decide +kernel
theorem dL_law_802 : decode cL_law 802 = .ok (.aload_n 1, 1) := by decide +kernel
theorem dL_law_803 : decode cL_law 803 = .ok (.aload_n 0, 1) := by decide +kernel
theorem dL_law_804 : decode cL_law 804 = .ok (.iload_n 3, 1) := by decide +kernel
theorem dL_law_805 : decode cL_law 805 = .ok (.iconst 1, 1) := by decide +kernel
theorem dL_law_806 : decode cL_law 806 = .ok (.iadd, 1) := by decide +kernel
theorem dL_law_807 : decode cL_law 807 = .ok (.iaload, 1) := by decide +kernel
theorem dL_law_808 : decode cL_law 808 = .ok (.aload_n 0, 1) := by decide +kernel
theorem dL_law_809 : decode cL_law 809 = .ok (.iload_n 3, 1) := by decide +kernel
theorem dL_law_810 : decode cL_law 810 = .ok (.iconst 2, 1) := by decide +kernel
theorem dL_law_811 : decode cL_law 811 = .ok (.iadd, 1) := by decide +kernel
theorem dL_law_812 : decode cL_law 812 = .ok (.iaload, 1) := by decide +kernel
theorem dL_law_813 : decode cL_law 813 = .ok (.invokevirtual 108, 3) := by decide +kernel
theorem dL_law_816 : decode cL_law 816 = .ok (.aload_n 2, 1) := by decide +kernel
theorem dL_law_817 : decode cL_law 817 = .ok (.aload_n 0, 1) := by decide +kernel
theorem dL_law_818 : decode cL_law 818 = .ok (.iload_n 3, 1) := by decide +kernel
theorem dL_law_819 : decode cL_law 819 = .ok (.iconst 1, 1) := by decide +kernel
theorem dL_law_820 : decode cL_law 820 = .ok (.iadd, 1) := by decide +kernel
theorem dL_law_821 : decode cL_law 821 = .ok (.iaload, 1) := by decide +kernel
theorem dL_law_822 : decode cL_law 822 = .ok (.aload_n 0, 1) := by decide +kernel
theorem dL_law_823 : decode cL_law 823 = .ok (.iload_n 3, 1) := by decide +kernel
theorem dL_law_824 : decode cL_law 824 = .ok (.iconst 2, 1) := by decide +kernel
theorem dL_law_825 : decode cL_law 825 = .ok (.iadd, 1) := by decide +kernel
theorem dL_law_826 : decode cL_law 826 = .ok (.iaload, 1) := by decide +kernel
theorem dL_law_827 : decode cL_law 827 = .ok (.invokevirtual 111, 3) := by decide +kernel
theorem dL_law_830 : decode cL_law 830 = .ok (.if_icmp .eq 5, 3) := by decide +kernel
theorem dL_law_833 : decode cL_law 833 = .ok (.iconst 0, 1) := by decide +kernel
theorem dL_law_834 : decode cL_law 834 = .ok (.ireturn, 1) := by decide +kernel
theorem dL_law_835 : decode cL_law 835 = .ok (.iinc 3 6, 3) := by decide +kernel
theorem dL_law_838 : decode cL_law 838 = .ok (.goto (-820), 3) := by decide +kernel
theorem dL_law_841 : decode cL_law 841 = .ok (.iconst 1, 1) := by decide +kernel
theorem dL_law_842 : decode cL_law 842 = .ok (.ireturn, 1) := by decide +kernel
