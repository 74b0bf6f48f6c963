theorem dL_act_0 : decode cL_act 0 = .ok (.iload_n 1, 1) := by decide +kernel
theorem dL_act_1 : decode cL_act 1 = .ok (.tableswitch 196 0 17 #[87, 93, 100, 106, 112, 118, 124, 130, 137, 144, 149, 154, 160, 166, 172, 178, 184, 190], 87) := by decide +kernel
theorem dL_act_88 : decode cL_act 88 = .ok (.aload_n 0, 1) := by decide +kernel
theorem dL_act_89 : decode cL_act 89 = .ok (.iload_n 2, 1) := by decide +kernel
theorem dL_act_90 : decode cL_act 90 = .ok (.invokevirtual 37, 3) := by decide +kernel
theorem dL_act_93 : decode cL_act 93 = .ok (.ireturn, 1) := by decide +kernel
theorem dL_act_94 : decode cL_act 94 = .ok (.aload_n 0, 1) := by decide +kernel
theorem dL_act_95 : decode cL_act 95 = .ok (.iload_n 2, 1) := by decide +kernel
theorem dL_act_96 : decode cL_act 96 = .ok (.iload_n 3, 1) := by decide +kernel
theorem dL_act_97 : decode cL_act 97 = .ok (.invokevirtual 41, 3) := by decide +kernel
theorem dL_act_100 : decode cL_act 100 = .ok (.ireturn, 1) := by decide +kernel
theorem dL_act_101 : decode cL_act 101 = .ok (.aload_n 0, 1) := by decide +kernel
theorem dL_act_102 : decode cL_act 102 = .ok (.iload_n 2, 1) := by decide +kernel
theorem dL_act_103 : decode cL_act 103 = .ok (.invokevirtual 45, 3) := by decide +kernel
theorem dL_act_106 : decode cL_act 106 = .ok (.ireturn, 1) := by decide +kernel
theorem dL_act_107 : decode cL_act 107 = .ok (.aload_n 0, 1) := by decide +kernel
theorem dL_act_108 : decode cL_act 108 = .ok (.iload_n 2, 1) := by decide +kernel
theorem dL_act_109 : decode cL_act 109 = .ok (.invokevirtual 48, 3) := by decide +kernel
theorem dL_act_112 : decode cL_act 112 = .ok (.ireturn, 1) := by decide +kernel
theorem dL_act_113 : decode cL_act 113 = .ok (.aload_n 0, 1) := by decide +kernel
theorem dL_act_114 : decode cL_act 114 = .ok (.iload_n 2, 1) := by decide +kernel
theorem dL_act_115 : decode cL_act 115 = .ok (.invokevirtual 51, 3) := by decide +kernel
theorem dL_act_118 : decode cL_act 118 = .ok (.ireturn, 1) := by decide +kernel
theorem dL_act_119 : decode cL_act 119 = .ok (.aload_n 0, 1) := by decide +kernel
theorem dL_act_120 : decode cL_act 120 = .ok (.iload_n 2, 1) := by decide +kernel
theorem dL_act_121 : decode cL_act 121 = .ok (.invokevirtual 54, 3) := by decide +kernel
theorem dL_act_124 : decode cL_act 124 = .ok (.ireturn, 1) := by decide +kernel
theorem dL_act_125 : decode cL_act 125 = .ok (.aload_n 0, 1) := by decide +kernel
theorem dL_act_126 : decode cL_act 126 = .ok (.iload_n 2, 1) := by decide +kernel
theorem dL_act_127 : decode cL_act 127 = .ok (.invokevirtual 57, 3) := by decide +kernel
theorem dL_act_130 : decode cL_act 130 = .ok (.ireturn, 1) := by decide +kernel
theorem dL_act_131 : decode cL_act 131 = .ok (.aload_n 0, 1) := by decide +kernel
theorem dL_act_132 : decode cL_act 132 = .ok (.iload_n 2, 1) := by decide +kernel
theorem dL_act_133 : decode cL_act 133 = .ok (.iload_n 3, 1) := by decide +kernel
theorem dL_act_134 : decode cL_act 134 = .ok (.invokevirtual 60, 3) := by decide +kernel
theorem dL_act_137 : decode cL_act 137 = .ok (.ireturn, 1) := by decide +kernel
theorem dL_act_138 : decode cL_act 138 = .ok (.aload_n 0, 1) := by decide +kernel
theorem dL_act_139 : decode cL_act 139 = .ok (.iload_n 2, 1) := by decide +kernel
theorem dL_act_140 : decode cL_act 140 = .ok (.iload_n 3, 1) := by decide +kernel
theorem dL_act_141 : decode cL_act 141 = .ok (.invokevirtual 63, 3) := by decide +kernel
theorem dL_act_144 : decode cL_act 144 = .ok (.ireturn, 1) := by decide +kernel
theorem dL_act_145 : decode cL_act 145 = .ok (.aload_n 0, 1) := by decide +kernel
theorem dL_act_146 : decode cL_act 146 = .ok (.invokevirtual 66, 3) := by decide +kernel
theorem dL_act_149 : decode cL_act 149 = .ok (.ireturn, 1) := by decide +kernel
theorem dL_act_150 : decode cL_act 150 = .ok (.aload_n 0, 1) := by decide +kernel
theorem dL_act_151 : decode cL_act 151 = .ok (.invokevirtual 69, 3) := by decide +kernel
theorem dL_act_154 : decode cL_act 154 = .ok (.ireturn, 1) := by decide +kernel
theorem dL_act_155 : decode cL_act 155 = .ok (.aload_n 0, 1) := by decide +kernel
theorem dL_act_156 : decode cL_act 156 = .ok (.iload_n 2, 1) := by decide +kernel
theorem dL_act_157 : decode cL_act 157 = .ok (.invokevirtual 72, 3) := by decide +kernel
theorem dL_act_160 : decode cL_act 160 = .ok (.ireturn, 1) := by decide +kernel
theorem dL_act_161 : decode cL_act 161 = .ok (.aload_n 0, 1) := by decide +kernel
theorem dL_act_162 : decode cL_act 162 = .ok (.iload_n 2, 1) := by decide +kernel
theorem dL_act_163 : decode cL_act 163 = .ok (.invokevirtual 75, 3) := by decide +kernel
theorem dL_act_166 : decode cL_act 166 = .ok (.ireturn, 1) := by decide +kernel
theorem dL_act_167 : decode cL_act 167 = .ok (.aload_n 0, 1) := by decide +kernel
theorem dL_act_168 : decode cL_act 168 = .ok (.iload_n 2, 1) := by decide +kernel
theorem dL_act_169 : decode cL_act 169 = .ok (.invokevirtual 78, 3) := by decide +kernel
theorem dL_act_172 : decode cL_act 172 = .ok (.ireturn, 1) := by decide +kernel
theorem dL_act_173 : decode cL_act 173 = .ok (.aload_n 0, 1) := by decide +kernel
theorem dL_act_174 : decode cL_act 174 = .ok (.iload_n 2, 1) := by decide +kernel
theorem dL_act_175 : decode cL_act 175 = .ok (.invokevirtual 81, 3) := by decide +kernel
theorem dL_act_178 : decode cL_act 178 = .ok (.ireturn, 1) := by decide +kernel
theorem dL_act_179 : decode cL_act 179 = .ok (.aload_n 0, 1) := by decide +kernel
theorem dL_act_180 : decode cL_act 180 = .ok (.iload_n 2, 1) := by decide +kernel
theorem dL_act_181 : decode cL_act 181 = .ok (.invokevirtual 84, 3) := by decide +kernel
theorem dL_act_184 : decode cL_act 184 = .ok (.ireturn, 1) := by decide +kernel
theorem dL_act_185 : decode cL_act 185 = .ok (.aload_n 0, 1) := by decide +kernel
theorem dL_act_186 : decode cL_act 186 = .ok (.iload_n 2, 1) := by decide +kernel
theorem dL_act_187 : decode cL_act 187 = .ok (.invokevirtual 87, 3) := by decide +kernel
theorem dL_act_190 : decode cL_act 190 = .ok (.ireturn, 1) := by decide +kernel
theorem dL_act_191 : decode cL_act 191 = .ok (.aload_n 0, 1) := by decide +kernel
theorem dL_act_192 : decode cL_act 192 = .ok (.iload_n 2, 1) := by decide +kernel
theorem dL_act_193 : decode cL_act 193 = .ok (.invokevirtual 90, 3) := by decide +kernel
theorem dL_act_196 : decode cL_act 196 = .ok (.ireturn, 1) := by decide +kernel
theorem dL_act_197 : decode cL_act 197 = .ok (.aload_n 0, 1) := by decide +kernel
theorem dL_act_198 : decode cL_act 198 = .ok (.iload_n 2, 1) := by decide +kernel
theorem dL_act_199 : decode cL_act 199 = .ok (.iload_n 3, 1) := by decide +kernel
theorem dL_act_200 : decode cL_act 200 = .ok (.invokevirtual 93, 3) := by decide +kernel
theorem dL_act_203 : decode cL_act 203 = .ok (.ireturn, 1) := by decide +kernel
theorem dL_act_204 : decode cL_act 204 = .ok (.astore 4, 2) := by decide +kernel
theorem dL_act_206 : decode cL_act 206 = .ok (.iconst (-1), 1) := by decide +kernel
theorem dL_act_207 : decode cL_act 207 = .ok (.ireturn, 1) := by decide +kernel
theorem dL_act_208 : decode cL_act 208 = .ok (.astore 4, 2) := by decide +kernel
theorem dL_act_210 : decode cL_act 210 = .ok (.bipush (-2), 2) := by decide +kernel
theorem dL_act_212 : decode cL_act 212 = .ok (.ireturn, 1) := by decide +kernel
theorem dL_act_213 : decode cL_act 213 = .ok (.astore 4, 2) := by decide +kernel
theorem dL_act_215 : decode cL_act 215 = .ok (.bipush (-3), 2) := by decide +kernel
theorem dL_act_217 : decode cL_act 217 = .ok (.ireturn, 1) := by decide +kernel
theorem dL_act_218 : decode cL_act 218 = .ok (.astore 4, 2) := by decide +kernel
theorem dL_act_220 : decode cL_act 220 = .ok (.bipush (-4), 2) := by decide +kernel
theorem dL_act_222 : decode cL_act 222 = .ok (.ireturn, 1) := by decide +kernel
theorem dL_state_0 : decode cL_state 0 = .ok (.bipush 31, 2) := by decide +kernel
theorem dL_state_2 : decode cL_state 2 = .ok (.bipush 31, 2) := by decide +kernel
theorem dL_state_4 : decode cL_state 4 = .ok (.bipush 31, 2) := by decide +kernel
theorem dL_state_6 : decode cL_state 6 = .ok (.aload_n 0, 1) := by decide +kernel
theorem dL_state_7 : decode cL_state 7 = .ok (.invokevirtual 104, 3) := by decide +kernel
theorem dL_state_10 : decode cL_state 10 = .ok (.imul, 1) := by decide +kernel
theorem dL_state_11 : decode cL_state 11 = .ok (.aload_n 0, 1) := by decide +kernel
theorem dL_state_12 : decode cL_state 12 = .ok (.invokevirtual 107, 3) := by decide +kernel
theorem dL_state_15 : decode cL_state 15 = .ok (.iadd, 1) := by decide +kernel
theorem dL_state_16 : decode cL_state 16 = .ok (.imul, 1) := by decide +kernel
theorem dL_state_17 : decode cL_state 17 = .ok (.aload_n 0, 1) := by decide +kernel
theorem dL_state_18 : decode cL_state 18 = .ok (.invokevirtual 34, 3) := by decide +kernel
theorem dL_state_21 : decode cL_state 21 = .ok (.iadd, 1) := by decide +kernel
theorem dL_state_22 : decode cL_state 22 = .ok (.imul, 1) := by decide +kernel
theorem dL_state_23 : decode cL_state 23 = .ok (.aload_n 0, 1) := by decide +kernel
theorem dL_state_24 : decode cL_state 24 = .ok (.invokevirtual 110, 3) := by decide +kernel
theorem dL_state_27 : decode cL_state 27 = .ok (.iadd, 1) := by decide +kernel
theorem dL_state_28 : decode cL_state 28 = .ok (.istore_n 1, 1) := by decide +kernel
theorem dL_state_29 : decode cL_state 29 = .ok (.iconst 0, 1) := by decide +kernel
theorem dL_state_30 : decode cL_state 30 = .ok (.istore_n 2, 1) := by decide +kernel
theorem dL_state_31 : decode cL_state 31 = .ok (.iload_n 2, 1) := by decide +kernel
theorem dL_state_32 : decode cL_state 32 = .ok (.aload_n 0, 1) := by decide +kernel
theorem dL_state_33 : decode cL_state 33 = .ok (.invokevirtual 34, 3) := by decide +kernel
theorem dL_state_36 : decode cL_state 36 = .ok (.if_icmp .ge 50, 3) := by decide +kernel
theorem dL_state_39 : decode cL_state 39 = .ok (.bipush 31, 2) := by decide +kernel
theorem dL_state_41 : decode cL_state 41 = .ok (.bipush 31, 2) := by decide +kernel
theorem dL_state_43 : decode cL_state 43 = .ok (.bipush 31, 2) := by decide +kernel
theorem dL_state_45 : decode cL_state 45 = .ok (.bipush 31, 2) := by decide +kernel
theorem dL_state_47 : decode cL_state 47 = .ok (.iload_n 1, 1) := by decide +kernel
theorem dL_state_48 : decode cL_state 48 = .ok (.imul, 1) := by decide +kernel
theorem dL_state_49 : decode cL_state 49 = .ok (.aload_n 0, 1) := by decide +kernel
theorem dL_state_50 : decode cL_state 50 = .ok (.iload_n 2, 1) := by decide +kernel
theorem dL_state_51 : decode cL_state 51 = .ok (.invokevirtual 113, 3) := by decide +kernel
theorem dL_state_54 : decode cL_state 54 = .ok (.iadd, 1) := by decide +kernel
theorem dL_state_55 : decode cL_state 55 = .ok (.imul, 1) := by decide +kernel
theorem dL_state_56 : decode cL_state 56 = .ok (.aload_n 0, 1) := by decide +kernel
theorem dL_state_57 : decode cL_state 57 = .ok (.iload_n 2, 1) := by decide +kernel
theorem dL_state_58 : decode cL_state 58 = .ok (.invokevirtual 116, 3) := by decide +kernel
theorem dL_state_61 : decode cL_state 61 = .ok (.iadd, 1) := by decide +kernel
theorem dL_state_62 : decode cL_state 62 = .ok (.imul, 1) := by decide +kernel
theorem dL_state_63 : decode cL_state 63 = .ok (.aload_n 0, 1) := by decide +kernel
theorem dL_state_64 : decode cL_state 64 = .ok (.bipush 14, 2) := by decide +kernel
theorem dL_state_66 : decode cL_state 66 = .ok (.iload_n 2, 1) := by decide +kernel
theorem dL_state_67 : decode cL_state 67 = .ok (.iconst 0, 1) := by decide +kernel
theorem dL_state_68 : decode cL_state 68 = .ok (.invokestatic 30, 3) := by decide +kernel
theorem dL_state_71 : decode cL_state 71 = .ok (.iadd, 1) := by decide +kernel
theorem dL_state_72 : decode cL_state 72 = .ok (.imul, 1) := by decide +kernel
theorem dL_state_73 : decode cL_state 73 = .ok (.aload_n 0, 1) := by decide +kernel
theorem dL_state_74 : decode cL_state 74 = .ok (.iload_n 2, 1) := by decide +kernel
theorem dL_state_75 : decode cL_state 75 = .ok (.invokevirtual 119, 3) := by decide +kernel
theorem dL_state_78 : decode cL_state 78 = .ok (.iadd, 1) := by decide +kernel
theorem dL_state_79 : decode cL_state 79 = .ok (.istore_n 1, 1) := by decide +kernel
theorem dL_state_80 : decode cL_state 80 = .ok (.iinc 2 1, 3) := by decide +kernel
theorem dL_state_83 : decode cL_state 83 = .ok (.goto (-52), 3) := by decide +kernel
theorem dL_state_86 : decode cL_state 86 = .ok (.iconst 0, 1) := by decide +kernel
theorem dL_state_87 : decode cL_state 87 = .ok (.istore_n 2, 1) := by decide +kernel
theorem dL_state_88 : decode cL_state 88 = .ok (.iload_n 2, 1) := by decide +kernel
theorem dL_state_89 : decode cL_state 89 = .ok (.aload_n 0, 1) := by decide +kernel
theorem dL_state_90 : decode cL_state 90 = .ok (.invokevirtual 110, 3) := by decide +kernel
theorem dL_state_93 : decode cL_state 93 = .ok (.if_icmp .ge 20, 3) := by decide +kernel
theorem dL_state_96 : decode cL_state 96 = .ok (.bipush 31, 2) := by decide +kernel
theorem dL_state_98 : decode cL_state 98 = .ok (.iload_n 1, 1) := by decide +kernel
theorem dL_state_99 : decode cL_state 99 = .ok (.imul, 1) := by decide +kernel
theorem dL_state_100 : decode cL_state 100 = .ok (.aload_n 0, 1) := by decide +kernel
theorem dL_state_101 : decode cL_state 101 = .ok (.iload_n 2, 1) := by decide +kernel
theorem dL_state_102 : decode cL_state 102 = .ok (.invokevirtual 122, 3) := by decide +kernel
theorem dL_state_105 : decode cL_state 105 = .ok (.iadd, 1) := by decide +kernel
theorem dL_state_106 : decode cL_state 106 = .ok (.istore_n 1, 1) := by decide +kernel
theorem dL_state_107 : decode cL_state 107 = .ok (.iinc 2 1, 3) := by decide +kernel
theorem dL_state_110 : decode cL_state 110 = .ok (.goto (-22), 3) := by decide +kernel
theorem dL_state_113 : decode cL_state 113 = .ok (.iconst 0, 1) := by decide +kernel
theorem dL_state_114 : decode cL_state 114 = .ok (.istore_n 2, 1) := by decide +kernel
theorem dL_state_115 : decode cL_state 115 = .ok (.iload_n 2, 1) := by decide +kernel
theorem dL_state_116 : decode cL_state 116 = .ok (.iconst 3, 1) := by decide +kernel
theorem dL_state_117 : decode cL_state 117 = .ok (.if_icmp .ge 35, 3) := by decide +kernel
theorem dL_state_120 : decode cL_state 120 = .ok (.bipush 31, 2) := by decide +kernel
theorem dL_state_122 : decode cL_state 122 = .ok (.bipush 31, 2) := by decide +kernel
theorem dL_state_124 : decode cL_state 124 = .ok (.iload_n 1, 1) := by decide +kernel
theorem dL_state_125 : decode cL_state 125 = .ok (.imul, 1) := by decide +kernel
theorem dL_state_126 : decode cL_state 126 = .ok (.aload_n 0, 1) := by decide +kernel
theorem dL_state_127 : decode cL_state 127 = .ok (.bipush 15, 2) := by decide +kernel
theorem dL_state_129 : decode cL_state 129 = .ok (.iload_n 2, 1) := by decide +kernel
theorem dL_state_130 : decode cL_state 130 = .ok (.iconst 0, 1) := by decide +kernel
theorem dL_state_131 : decode cL_state 131 = .ok (.invokestatic 30, 3) := by decide +kernel
theorem dL_state_134 : decode cL_state 134 = .ok (.iadd, 1) := by decide +kernel
theorem dL_state_135 : decode cL_state 135 = .ok (.imul, 1) := by decide +kernel
theorem dL_state_136 : decode cL_state 136 = .ok (.aload_n 0, 1) := by decide +kernel
theorem dL_state_137 : decode cL_state 137 = .ok (.bipush 16, 2) := by decide +kernel
theorem dL_state_139 : decode cL_state 139 = .ok (.iload_n 2, 1) := by decide +kernel
theorem dL_state_140 : decode cL_state 140 = .ok (.iconst 0, 1) := by decide +kernel
theorem dL_state_141 : decode cL_state 141 = .ok (.invokestatic 30, 3) := by decide +kernel
theorem dL_state_144 : decode cL_state 144 = .ok (.iadd, 1) := by decide +kernel
theorem dL_state_145 : decode cL_state 145 = .ok (.istore_n 1, 1) := by decide +kernel
theorem dL_state_146 : decode cL_state 146 = .ok (.iinc 2 1, 3) := by decide +kernel
theorem dL_state_149 : decode cL_state 149 = .ok (.goto (-34), 3) := by decide +kernel
theorem dL_state_152 : decode cL_state 152 = .ok (.iload_n 1, 1) := by decide +kernel
theorem dL_state_153 : decode cL_state 153 = .ok (.ireturn, 1) := by decide +kernel
theorem dL_law_0 : decode cL_law 0 = .ok (.aload_n 0, 1) := by decide +kernel
theorem dL_law_1 : decode cL_law 1 = .ok (.invokestatic 133, 3) := by decide +kernel
theorem dL_law_4 : decode cL_law 4 = .ok (.astore_n 1, 1) := by decide +kernel
theorem dL_law_5 : decode cL_law 5 = .ok (.aload_n 0, 1) := by decide +kernel
theorem dL_law_6 : decode cL_law 6 = .ok (.invokestatic 133, 3) := by decide +kernel
theorem dL_law_9 : decode cL_law 9 = .ok (.astore_n 2, 1) := by decide +kernel
theorem dL_law_10 : decode cL_law 10 = .ok (.aload_n 1, 1) := by decide +kernel
theorem dL_law_11 : decode cL_law 11 = .ok (.invokevirtual 137, 3) := by decide +kernel
theorem dL_law_14 : decode cL_law 14 = .ok (.istore_n 3, 1) := by decide +kernel
theorem dL_law_15 : decode cL_law 15 = .ok (.aload_n 1, 1) := by decide +kernel
theorem dL_law_16 : decode cL_law 16 = .ok (.invokestatic 140, 3) := by decide +kernel
theorem dL_law_19 : decode cL_law 19 = .ok (.istore 4, 2) := by decide +kernel
theorem dL_law_21 : decode cL_law 21 = .ok (.aload_n 1, 1) := by decide +kernel
theorem dL_law_22 : decode cL_law 22 = .ok (.ldc 144, 2) := by decide +kernel
theorem dL_law_24 : decode cL_law 24 = .ok (.invokestatic 146, 3) := by decide +kernel
theorem dL_law_27 : decode cL_law 27 = .ok (.aload_n 1, 1) := by decide +kernel
theorem dL_law_28 : decode cL_law 28 = .ok (.invokevirtual 150, 3) := by decide +kernel
theorem dL_law_31 : decode cL_law 31 = .ok (.iconst 3, 1) := by decide +kernel
theorem dL_law_32 : decode cL_law 32 = .ok (.if_icmp .ne 41, 3) := by decide +kernel
theorem dL_law_35 : decode cL_law 35 = .ok (.aload_n 2, 1) := by decide +kernel
theorem dL_law_36 : decode cL_law 36 = .ok (.bipush 9, 2) := by decide +kernel
theorem dL_law_38 : decode cL_law 38 = .ok (.invokevirtual 48, 3) := by decide +kernel
theorem dL_law_41 : decode cL_law 41 = .ok (.ifCond .lt 32, 3) := by decide +kernel
theorem dL_law_44 : decode cL_law 44 = .ok (.aload_n 2, 1) := by decide +kernel
theorem dL_law_45 : decode cL_law 45 = .ok (.bipush 40, 2) := by decide +kernel
theorem dL_law_47 : decode cL_law 47 = .ok (.invokevirtual 51, 3) := by decide +kernel
theorem dL_law_50 : decode cL_law 50 = .ok (.ifCond .lt 23, 3) := by decide +kernel
theorem dL_law_53 : decode cL_law 53 = .ok (.aload_n 2, 1) := by decide +kernel
theorem dL_law_54 : decode cL_law 54 = .ok (.bipush 7, 2) := by decide +kernel
theorem dL_law_56 : decode cL_law 56 = .ok (.invokevirtual 51, 3) := by decide +kernel
theorem dL_law_59 : decode cL_law 59 = .ok (.ifCond .lt 14, 3) := by decide +kernel
theorem dL_law_62 : decode cL_law 62 = .ok (.aload_n 1, 1) := by decide +kernel
theorem dL_law_63 : decode cL_law 63 = .ok (.invokestatic 140, 3) := by decide +kernel
theorem dL_law_66 : decode cL_law 66 = .ok (.aload_n 2, 1) := by decide +kernel
theorem dL_law_67 : decode cL_law 67 = .ok (.invokestatic 140, 3) := by decide +kernel
theorem dL_law_70 : decode cL_law 70 = .ok (.if_icmp .eq 5, 3) := by decide +kernel
theorem dL_law_73 : decode cL_law 73 = .ok (.iconst 0, 1) := by decide +kernel
theorem dL_law_74 : decode cL_law 74 = .ok (.ireturn, 1) := by decide +kernel
theorem dL_law_75 : decode cL_law 75 = .ok (.aload_n 1, 1) := by decide +kernel
theorem dL_law_76 : decode cL_law 76 = .ok (.invokevirtual 153, 3) := by decide +kernel
theorem dL_law_79 : decode cL_law 79 = .ok (.ifCond .lt 42, 3) := by decide +kernel
theorem dL_law_82 : decode cL_law 82 = .ok (.aload_n 1, 1) := by decide +kernel
theorem dL_law_83 : decode cL_law 83 = .ok (.invokestatic 140, 3) := by decide +kernel
theorem dL_law_86 : decode cL_law 86 = .ok (.iload 4, 2) := by decide +kernel
theorem dL_law_88 : decode cL_law 88 = .ok (.if_icmp .ne 33, 3) := by decide +kernel
theorem dL_law_91 : decode cL_law 91 = .ok (.aload_n 2, 1) := by decide +kernel
theorem dL_law_92 : decode cL_law 92 = .ok (.invokevirtual 153, 3) := by decide +kernel
theorem dL_law_95 : decode cL_law 95 = .ok (.ifCond .lt 26, 3) := by decide +kernel
theorem dL_law_98 : decode cL_law 98 = .ok (.aload_n 2, 1) := by decide +kernel
theorem dL_law_99 : decode cL_law 99 = .ok (.invokevirtual 153, 3) := by decide +kernel
theorem dL_law_102 : decode cL_law 102 = .ok (.ifCond .lt 19, 3) := by decide +kernel
theorem dL_law_105 : decode cL_law 105 = .ok (.aload_n 2, 1) := by decide +kernel
theorem dL_law_106 : decode cL_law 106 = .ok (.invokevirtual 153, 3) := by decide +kernel
theorem dL_law_109 : decode cL_law 109 = .ok (.ifCond .lt 12, 3) := by decide +kernel
theorem dL_law_112 : decode cL_law 112 = .ok (.aload_n 2, 1) := by decide +kernel
theorem dL_law_113 : decode cL_law 113 = .ok (.invokestatic 140, 3) := by decide +kernel
theorem dL_law_116 : decode cL_law 116 = .ok (.iload 4, 2) := by decide +kernel
theorem dL_law_118 : decode cL_law 118 = .ok (.if_icmp .eq 5, 3) := by decide +kernel
theorem dL_law_121 : decode cL_law 121 = .ok (.iconst 0, 1) := by decide +kernel
theorem dL_law_122 : decode cL_law 122 = .ok (.ireturn, 1) := by decide +kernel
theorem dL_law_123 : decode cL_law 123 = .ok (.aload_n 1, 1) := by decide +kernel
theorem dL_law_124 : decode cL_law 124 = .ok (.ldc 156, 2) := by decide +kernel
theorem dL_law_126 : decode cL_law 126 = .ok (.invokestatic 146, 3) := by decide +kernel
theorem dL_law_129 : decode cL_law 129 = .ok (.aload_n 1, 1) := by decide +kernel
theorem dL_law_130 : decode cL_law 130 = .ok (.invokestatic 158, 3) := by decide +kernel
theorem dL_law_133 : decode cL_law 133 = .ok (.bipush (-2), 2) := by decide +kernel
theorem dL_law_135 : decode cL_law 135 = .ok (.if_icmp .ne 20, 3) := by decide +kernel
theorem dL_law_138 : decode cL_law 138 = .ok (.aload_n 1, 1) := by decide +kernel
theorem dL_law_139 : decode cL_law 139 = .ok (.invokevirtual 161, 3) := by decide +kernel
theorem dL_law_142 : decode cL_law 142 = .ok (.iconst 1, 1) := by decide +kernel
theorem dL_law_143 : decode cL_law 143 = .ok (.if_icmp .ne 12, 3) := by decide +kernel
theorem dL_law_146 : decode cL_law 146 = .ok (.aload_n 1, 1) := by decide +kernel
theorem dL_law_147 : decode cL_law 147 = .ok (.invokestatic 140, 3) := by decide +kernel
theorem dL_law_150 : decode cL_law 150 = .ok (.iload 4, 2) := by decide +kernel
theorem dL_law_152 : decode cL_law 152 = .ok (.if_icmp .eq 5, 3) := by decide +kernel
theorem dL_law_155 : decode cL_law 155 = .ok (.iconst 0, 1) := by decide +kernel
theorem dL_law_156 : decode cL_law 156 = .ok (.ireturn, 1) := by decide +kernel
theorem dL_law_157 : decode cL_law 157 = .ok (.aload_n 1, 1) := by decide +kernel
theorem dL_law_158 : decode cL_law 158 = .ok (.ldc 164, 2) := by decide +kernel
theorem dL_law_160 : decode cL_law 160 = .ok (.invokestatic 146, 3) := by decide +kernel
theorem dL_law_163 : decode cL_law 163 = .ok (.aload_n 1, 1) := by decide +kernel
theorem dL_law_164 : decode cL_law 164 = .ok (.invokestatic 158, 3) := by decide +kernel
theorem dL_law_167 : decode cL_law 167 = .ok (.bipush (-2), 2) := by decide +kernel
theorem dL_law_169 : decode cL_law 169 = .ok (.if_icmp .ne 19, 3) := by decide +kernel
