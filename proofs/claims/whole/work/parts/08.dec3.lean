theorem d_M_follow_28 : decode b_M_follow 28 = .ok (.if_icmp .ge 101, 3) := by decide +kernel
theorem d_M_follow_31 : decode b_M_follow 31 = .ok (.aload_n 0, 1) := by decide +kernel
theorem d_M_follow_32 : decode b_M_follow 32 = .ok (.aload_n 0, 1) := by decide +kernel
theorem d_M_follow_33 : decode b_M_follow 33 = .ok (.getfield 38, 3) := by decide +kernel
theorem d_M_follow_36 : decode b_M_follow 36 = .ok (.iload_n 2, 1) := by decide +kernel
theorem d_M_follow_37 : decode b_M_follow 37 = .ok (.iaload, 1) := by decide +kernel
theorem d_M_follow_38 : decode b_M_follow 38 = .ok (.iload_n 3, 1) := by decide +kernel
theorem d_M_follow_39 : decode b_M_follow 39 = .ok (.invokevirtual 69, 3) := by decide +kernel
theorem d_M_follow_42 : decode b_M_follow 42 = .ok (.istore 4, 2) := by decide +kernel
theorem d_M_follow_44 : decode b_M_follow 44 = .ok (.iconst 0, 1) := by decide +kernel
theorem d_M_follow_45 : decode b_M_follow 45 = .ok (.istore 5, 2) := by decide +kernel
theorem d_M_follow_47 : decode b_M_follow 47 = .ok (.iload 5, 2) := by decide +kernel
theorem d_M_follow_49 : decode b_M_follow 49 = .ok (.iload_n 1, 1) := by decide +kernel
theorem d_M_follow_50 : decode b_M_follow 50 = .ok (.if_icmp .ge 21, 3) := by decide +kernel
theorem d_M_follow_53 : decode b_M_follow 53 = .ok (.aload_n 0, 1) := by decide +kernel
theorem d_M_follow_54 : decode b_M_follow 54 = .ok (.getfield 38, 3) := by decide +kernel
theorem d_M_follow_57 : decode b_M_follow 57 = .ok (.iload 5, 2) := by decide +kernel
theorem d_M_follow_59 : decode b_M_follow 59 = .ok (.iaload, 1) := by decide +kernel
theorem d_M_follow_60 : decode b_M_follow 60 = .ok (.iload 4, 2) := by decide +kernel
theorem d_M_follow_62 : decode b_M_follow 62 = .ok (.if_icmp .eq 9, 3) := by decide +kernel
theorem d_M_follow_65 : decode b_M_follow 65 = .ok (.iinc 5 1, 3) := by decide +kernel
theorem d_M_follow_68 : decode b_M_follow 68 = .ok (.goto (-21), 3) := by decide +kernel
theorem d_M_follow_71 : decode b_M_follow 71 = .ok (.iload 4, 2) := by decide +kernel
theorem d_M_follow_73 : decode b_M_follow 73 = .ok (.ifCond .eq 28, 3) := by decide +kernel
theorem d_M_follow_76 : decode b_M_follow 76 = .ok (.iload 5, 2) := by decide +kernel
theorem d_M_follow_78 : decode b_M_follow 78 = .ok (.iload_n 1, 1) := by decide +kernel
theorem d_M_follow_79 : decode b_M_follow 79 = .ok (.if_icmp .ne 22, 3) := by decide +kernel
theorem d_M_follow_82 : decode b_M_follow 82 = .ok (.iload_n 1, 1) := by decide +kernel
theorem d_M_follow_83 : decode b_M_follow 83 = .ok (.bipush 120, 2) := by decide +kernel
theorem d_M_follow_85 : decode b_M_follow 85 = .ok (.if_icmp .ne 5, 3) := by decide +kernel
theorem d_M_follow_88 : decode b_M_follow 88 = .ok (.iconst (-1), 1) := by decide +kernel
theorem d_M_follow_89 : decode b_M_follow 89 = .ok (.ireturn, 1) := by decide +kernel
theorem d_M_follow_90 : decode b_M_follow 90 = .ok (.aload_n 0, 1) := by decide +kernel
theorem d_M_follow_91 : decode b_M_follow 91 = .ok (.getfield 38, 3) := by decide +kernel
theorem d_M_follow_94 : decode b_M_follow 94 = .ok (.iload_n 1, 1) := by decide +kernel
theorem d_M_follow_95 : decode b_M_follow 95 = .ok (.iload 4, 2) := by decide +kernel
theorem d_M_follow_97 : decode b_M_follow 97 = .ok (.iastore, 1) := by decide +kernel
theorem d_M_follow_98 : decode b_M_follow 98 = .ok (.iinc 1 1, 3) := by decide +kernel
theorem d_M_follow_101 : decode b_M_follow 101 = .ok (.aload_n 0, 1) := by decide +kernel
theorem d_M_follow_102 : decode b_M_follow 102 = .ok (.getfield 41, 3) := by decide +kernel
theorem d_M_follow_105 : decode b_M_follow 105 = .ok (.bipush 40, 2) := by decide +kernel
theorem d_M_follow_107 : decode b_M_follow 107 = .ok (.iload_n 2, 1) := by decide +kernel
theorem d_M_follow_108 : decode b_M_follow 108 = .ok (.imul, 1) := by decide +kernel
theorem d_M_follow_109 : decode b_M_follow 109 = .ok (.iload_n 3, 1) := by decide +kernel
theorem d_M_follow_110 : decode b_M_follow 110 = .ok (.iadd, 1) := by decide +kernel
theorem d_M_follow_111 : decode b_M_follow 111 = .ok (.iload 4, 2) := by decide +kernel
theorem d_M_follow_113 : decode b_M_follow 113 = .ok (.ifCond .ne 7, 3) := by decide +kernel
theorem d_M_follow_116 : decode b_M_follow 116 = .ok (.iconst (-1), 1) := by decide +kernel
theorem d_M_follow_117 : decode b_M_follow 117 = .ok (.goto 5, 3) := by decide +kernel
theorem d_M_follow_120 : decode b_M_follow 120 = .ok (.iload 5, 2) := by decide +kernel
theorem d_M_follow_122 : decode b_M_follow 122 = .ok (.iastore, 1) := by decide +kernel
theorem d_M_follow_123 : decode b_M_follow 123 = .ok (.iinc 3 1, 3) := by decide +kernel
theorem d_M_follow_126 : decode b_M_follow 126 = .ok (.goto (-103), 3) := by decide +kernel
theorem d_M_follow_129 : decode b_M_follow 129 = .ok (.iinc 2 1, 3) := by decide +kernel
theorem d_M_follow_132 : decode b_M_follow 132 = .ok (.goto (-116), 3) := by decide +kernel
theorem d_M_follow_135 : decode b_M_follow 135 = .ok (.iload_n 1, 1) := by decide +kernel
theorem d_M_follow_136 : decode b_M_follow 136 = .ok (.ireturn, 1) := by decide +kernel
theorem d_M_led_0 : decode b_M_led 0 = .ok (.iconst 0, 1) := by decide +kernel
theorem d_M_led_1 : decode b_M_led 1 = .ok (.istore_n 3, 1) := by decide +kernel
theorem d_M_led_2 : decode b_M_led 2 = .ok (.iconst 0, 1) := by decide +kernel
theorem d_M_led_3 : decode b_M_led 3 = .ok (.istore 4, 2) := by decide +kernel
theorem d_M_led_5 : decode b_M_led 5 = .ok (.iload 4, 2) := by decide +kernel
theorem d_M_led_7 : decode b_M_led 7 = .ok (.aload_n 0, 1) := by decide +kernel
theorem d_M_led_8 : decode b_M_led 8 = .ok (.getfield 7, 3) := by decide +kernel
theorem d_M_led_11 : decode b_M_led 11 = .ok (.if_icmp .ge 38, 3) := by decide +kernel
theorem d_M_led_14 : decode b_M_led 14 = .ok (.iload_n 3, 1) := by decide +kernel
theorem d_M_led_15 : decode b_M_led 15 = .ok (.iload_n 1, 1) := by decide +kernel
theorem d_M_led_16 : decode b_M_led 16 = .ok (.iload 4, 2) := by decide +kernel
theorem d_M_led_18 : decode b_M_led 18 = .ok (.ishr, 1) := by decide +kernel
theorem d_M_led_19 : decode b_M_led 19 = .ok (.iconst 1, 1) := by decide +kernel
theorem d_M_led_20 : decode b_M_led 20 = .ok (.iand, 1) := by decide +kernel
theorem d_M_led_21 : decode b_M_led 21 = .ok (.iconst 1, 1) := by decide +kernel
theorem d_M_led_22 : decode b_M_led 22 = .ok (.if_icmp .ne 18, 3) := by decide +kernel
theorem d_M_led_25 : decode b_M_led 25 = .ok (.aload_n 0, 1) := by decide +kernel
theorem d_M_led_26 : decode b_M_led 26 = .ok (.getfield 16, 3) := by decide +kernel
theorem d_M_led_29 : decode b_M_led 29 = .ok (.bipush 24, 2) := by decide +kernel
theorem d_M_led_31 : decode b_M_led 31 = .ok (.iload_n 2, 1) := by decide +kernel
theorem d_M_led_32 : decode b_M_led 32 = .ok (.imul, 1) := by decide +kernel
theorem d_M_led_33 : decode b_M_led 33 = .ok (.iload 4, 2) := by decide +kernel
theorem d_M_led_35 : decode b_M_led 35 = .ok (.iadd, 1) := by decide +kernel
theorem d_M_led_36 : decode b_M_led 36 = .ok (.iaload, 1) := by decide +kernel
theorem d_M_led_37 : decode b_M_led 37 = .ok (.goto 4, 3) := by decide +kernel
theorem d_M_led_40 : decode b_M_led 40 = .ok (.iconst 0, 1) := by decide +kernel
theorem d_M_led_41 : decode b_M_led 41 = .ok (.ior, 1) := by decide +kernel
theorem d_M_led_42 : decode b_M_led 42 = .ok (.istore_n 3, 1) := by decide +kernel
theorem d_M_led_43 : decode b_M_led 43 = .ok (.iinc 4 1, 3) := by decide +kernel
theorem d_M_led_46 : decode b_M_led 46 = .ok (.goto (-41), 3) := by decide +kernel
theorem d_M_led_49 : decode b_M_led 49 = .ok (.iload_n 3, 1) := by decide +kernel
theorem d_M_led_50 : decode b_M_led 50 = .ok (.ireturn, 1) := by decide +kernel
theorem d_M_tell_0 : decode b_M_tell 0 = .ok (.iconst 0, 1) := by decide +kernel
theorem d_M_tell_1 : decode b_M_tell 1 = .ok (.istore_n 2, 1) := by decide +kernel
theorem d_M_tell_2 : decode b_M_tell 2 = .ok (.iconst 0, 1) := by decide +kernel
theorem d_M_tell_3 : decode b_M_tell 3 = .ok (.istore_n 3, 1) := by decide +kernel
theorem d_M_tell_4 : decode b_M_tell 4 = .ok (.iload_n 3, 1) := by decide +kernel
theorem d_M_tell_5 : decode b_M_tell 5 = .ok (.aload_n 0, 1) := by decide +kernel
theorem d_M_tell_6 : decode b_M_tell 6 = .ok (.getfield 73, 3) := by decide +kernel
theorem d_M_tell_9 : decode b_M_tell 9 = .ok (.if_icmp .ge 240, 3) := by decide +kernel
theorem d_M_tell_12 : decode b_M_tell 12 = .ok (.iconst 0, 1) := by decide +kernel
theorem d_M_tell_13 : decode b_M_tell 13 = .ok (.istore 4, 2) := by decide +kernel
theorem d_M_tell_15 : decode b_M_tell 15 = .ok (.iload 4, 2) := by decide +kernel
theorem d_M_tell_17 : decode b_M_tell 17 = .ok (.iload_n 3, 1) := by decide +kernel
theorem d_M_tell_18 : decode b_M_tell 18 = .ok (.if_icmp .ge 225, 3) := by decide +kernel
theorem d_M_tell_21 : decode b_M_tell 21 = .ok (.iconst 0, 1) := by decide +kernel
theorem d_M_tell_22 : decode b_M_tell 22 = .ok (.istore 5, 2) := by decide +kernel
theorem d_M_tell_24 : decode b_M_tell 24 = .ok (.iload 5, 2) := by decide +kernel
theorem d_M_tell_26 : decode b_M_tell 26 = .ok (.aload_n 0, 1) := by decide +kernel
theorem d_M_tell_27 : decode b_M_tell 27 = .ok (.getfield 76, 3) := by decide +kernel
theorem d_M_tell_30 : decode b_M_tell 30 = .ok (.if_icmp .ge 159, 3) := by decide +kernel
theorem d_M_tell_33 : decode b_M_tell 33 = .ok (.aload_n 0, 1) := by decide +kernel
theorem d_M_tell_34 : decode b_M_tell 34 = .ok (.getfield 26, 3) := by decide +kernel
theorem d_M_tell_37 : decode b_M_tell 37 = .ok (.bipush 120, 2) := by decide +kernel
theorem d_M_tell_39 : decode b_M_tell 39 = .ok (.iload_n 3, 1) := by decide +kernel
theorem d_M_tell_40 : decode b_M_tell 40 = .ok (.imul, 1) := by decide +kernel
theorem d_M_tell_41 : decode b_M_tell 41 = .ok (.iload 4, 2) := by decide +kernel
theorem d_M_tell_43 : decode b_M_tell 43 = .ok (.iadd, 1) := by decide +kernel
theorem d_M_tell_44 : decode b_M_tell 44 = .ok (.iaload, 1) := by decide +kernel
theorem d_M_tell_45 : decode b_M_tell 45 = .ok (.ifCond .ne 144, 3) := by decide +kernel
theorem d_M_tell_48 : decode b_M_tell 48 = .ok (.aload_n 0, 1) := by decide +kernel
theorem d_M_tell_49 : decode b_M_tell 49 = .ok (.getfield 23, 3) := by decide +kernel
theorem d_M_tell_52 : decode b_M_tell 52 = .ok (.bipush 40, 2) := by decide +kernel
theorem d_M_tell_54 : decode b_M_tell 54 = .ok (.iload_n 3, 1) := by decide +kernel
theorem d_M_tell_55 : decode b_M_tell 55 = .ok (.imul, 1) := by decide +kernel
theorem d_M_tell_56 : decode b_M_tell 56 = .ok (.iload 5, 2) := by decide +kernel
theorem d_M_tell_58 : decode b_M_tell 58 = .ok (.iadd, 1) := by decide +kernel
theorem d_M_tell_59 : decode b_M_tell 59 = .ok (.iaload, 1) := by decide +kernel
theorem d_M_tell_60 : decode b_M_tell 60 = .ok (.istore 6, 2) := by decide +kernel
theorem d_M_tell_62 : decode b_M_tell 62 = .ok (.aload_n 0, 1) := by decide +kernel
theorem d_M_tell_63 : decode b_M_tell 63 = .ok (.getfield 23, 3) := by decide +kernel
theorem d_M_tell_66 : decode b_M_tell 66 = .ok (.bipush 40, 2) := by decide +kernel
theorem d_M_tell_68 : decode b_M_tell 68 = .ok (.iload 4, 2) := by decide +kernel
theorem d_M_tell_70 : decode b_M_tell 70 = .ok (.imul, 1) := by decide +kernel
theorem d_M_tell_71 : decode b_M_tell 71 = .ok (.iload 5, 2) := by decide +kernel
theorem d_M_tell_73 : decode b_M_tell 73 = .ok (.iadd, 1) := by decide +kernel
theorem d_M_tell_74 : decode b_M_tell 74 = .ok (.iaload, 1) := by decide +kernel
theorem d_M_tell_75 : decode b_M_tell 75 = .ok (.istore 7, 2) := by decide +kernel
theorem d_M_tell_77 : decode b_M_tell 77 = .ok (.iload_n 1, 1) := by decide +kernel
theorem d_M_tell_78 : decode b_M_tell 78 = .ok (.iconst 1, 1) := by decide +kernel
theorem d_M_tell_79 : decode b_M_tell 79 = .ok (.if_icmp .ne 34, 3) := by decide +kernel
theorem d_M_tell_82 : decode b_M_tell 82 = .ok (.iload 6, 2) := by decide +kernel
theorem d_M_tell_84 : decode b_M_tell 84 = .ok (.ifCond .ge 7, 3) := by decide +kernel
theorem d_M_tell_87 : decode b_M_tell 87 = .ok (.iconst 1, 1) := by decide +kernel
theorem d_M_tell_88 : decode b_M_tell 88 = .ok (.goto 4, 3) := by decide +kernel
theorem d_M_tell_91 : decode b_M_tell 91 = .ok (.iconst 0, 1) := by decide +kernel
theorem d_M_tell_92 : decode b_M_tell 92 = .ok (.iload 7, 2) := by decide +kernel
theorem d_M_tell_94 : decode b_M_tell 94 = .ok (.ifCond .ge 7, 3) := by decide +kernel
theorem d_M_tell_97 : decode b_M_tell 97 = .ok (.iconst 1, 1) := by decide +kernel
theorem d_M_tell_98 : decode b_M_tell 98 = .ok (.goto 4, 3) := by decide +kernel
theorem d_M_tell_101 : decode b_M_tell 101 = .ok (.iconst 0, 1) := by decide +kernel
theorem d_M_tell_102 : decode b_M_tell 102 = .ok (.if_icmp .eq 7, 3) := by decide +kernel
theorem d_M_tell_105 : decode b_M_tell 105 = .ok (.iconst 1, 1) := by decide +kernel
theorem d_M_tell_106 : decode b_M_tell 106 = .ok (.goto 41, 3) := by decide +kernel
theorem d_M_tell_109 : decode b_M_tell 109 = .ok (.iconst 0, 1) := by decide +kernel
theorem d_M_tell_110 : decode b_M_tell 110 = .ok (.goto 37, 3) := by decide +kernel
theorem d_M_tell_113 : decode b_M_tell 113 = .ok (.iload 6, 2) := by decide +kernel
theorem d_M_tell_115 : decode b_M_tell 115 = .ok (.ifCond .lt 31, 3) := by decide +kernel
theorem d_M_tell_118 : decode b_M_tell 118 = .ok (.iload 7, 2) := by decide +kernel
theorem d_M_tell_120 : decode b_M_tell 120 = .ok (.ifCond .lt 26, 3) := by decide +kernel
theorem d_M_tell_123 : decode b_M_tell 123 = .ok (.aload_n 0, 1) := by decide +kernel
theorem d_M_tell_124 : decode b_M_tell 124 = .ok (.getfield 26, 3) := by decide +kernel
theorem d_M_tell_127 : decode b_M_tell 127 = .ok (.bipush 120, 2) := by decide +kernel
theorem d_M_tell_129 : decode b_M_tell 129 = .ok (.iload 6, 2) := by decide +kernel
theorem d_M_tell_131 : decode b_M_tell 131 = .ok (.imul, 1) := by decide +kernel
theorem d_M_tell_132 : decode b_M_tell 132 = .ok (.iload 7, 2) := by decide +kernel
theorem d_M_tell_134 : decode b_M_tell 134 = .ok (.iadd, 1) := by decide +kernel
theorem d_M_tell_135 : decode b_M_tell 135 = .ok (.iaload, 1) := by decide +kernel
theorem d_M_tell_136 : decode b_M_tell 136 = .ok (.iload_n 1, 1) := by decide +kernel
theorem d_M_tell_137 : decode b_M_tell 137 = .ok (.iconst 1, 1) := by decide +kernel
theorem d_M_tell_138 : decode b_M_tell 138 = .ok (.isub, 1) := by decide +kernel
theorem d_M_tell_139 : decode b_M_tell 139 = .ok (.if_icmp .ne 7, 3) := by decide +kernel
theorem d_M_tell_142 : decode b_M_tell 142 = .ok (.iconst 1, 1) := by decide +kernel
theorem d_M_tell_143 : decode b_M_tell 143 = .ok (.goto 4, 3) := by decide +kernel
theorem d_M_tell_146 : decode b_M_tell 146 = .ok (.iconst 0, 1) := by decide +kernel
theorem d_M_tell_147 : decode b_M_tell 147 = .ok (.istore 8, 2) := by decide +kernel
theorem d_M_tell_149 : decode b_M_tell 149 = .ok (.iload 8, 2) := by decide +kernel
theorem d_M_tell_151 : decode b_M_tell 151 = .ok (.ifCond .eq 32, 3) := by decide +kernel
theorem d_M_tell_154 : decode b_M_tell 154 = .ok (.aload_n 0, 1) := by decide +kernel
theorem d_M_tell_155 : decode b_M_tell 155 = .ok (.getfield 26, 3) := by decide +kernel
theorem d_M_tell_158 : decode b_M_tell 158 = .ok (.bipush 120, 2) := by decide +kernel
theorem d_M_tell_160 : decode b_M_tell 160 = .ok (.iload_n 3, 1) := by decide +kernel
theorem d_M_tell_161 : decode b_M_tell 161 = .ok (.imul, 1) := by decide +kernel
theorem d_M_tell_162 : decode b_M_tell 162 = .ok (.iload 4, 2) := by decide +kernel
theorem d_M_tell_164 : decode b_M_tell 164 = .ok (.iadd, 1) := by decide +kernel
theorem d_M_tell_165 : decode b_M_tell 165 = .ok (.iload_n 1, 1) := by decide +kernel
theorem d_M_tell_166 : decode b_M_tell 166 = .ok (.iastore, 1) := by decide +kernel
theorem d_M_tell_167 : decode b_M_tell 167 = .ok (.aload_n 0, 1) := by decide +kernel
theorem d_M_tell_168 : decode b_M_tell 168 = .ok (.getfield 29, 3) := by decide +kernel
theorem d_M_tell_171 : decode b_M_tell 171 = .ok (.bipush 120, 2) := by decide +kernel
theorem d_M_tell_173 : decode b_M_tell 173 = .ok (.iload_n 3, 1) := by decide +kernel
theorem d_M_tell_174 : decode b_M_tell 174 = .ok (.imul, 1) := by decide +kernel
theorem d_M_tell_175 : decode b_M_tell 175 = .ok (.iload 4, 2) := by decide +kernel
theorem d_M_tell_177 : decode b_M_tell 177 = .ok (.iadd, 1) := by decide +kernel
theorem d_M_tell_178 : decode b_M_tell 178 = .ok (.iload 5, 2) := by decide +kernel
theorem d_M_tell_180 : decode b_M_tell 180 = .ok (.iastore, 1) := by decide +kernel
theorem d_M_tell_181 : decode b_M_tell 181 = .ok (.iconst 1, 1) := by decide +kernel
theorem d_M_tell_182 : decode b_M_tell 182 = .ok (.istore_n 2, 1) := by decide +kernel
theorem d_M_tell_183 : decode b_M_tell 183 = .ok (.iinc 5 1, 3) := by decide +kernel
theorem d_M_tell_186 : decode b_M_tell 186 = .ok (.goto (-162), 3) := by decide +kernel
theorem d_M_tell_189 : decode b_M_tell 189 = .ok (.aload_n 0, 1) := by decide +kernel
theorem d_M_tell_190 : decode b_M_tell 190 = .ok (.getfield 26, 3) := by decide +kernel
theorem d_M_tell_193 : decode b_M_tell 193 = .ok (.bipush 120, 2) := by decide +kernel
theorem d_M_tell_195 : decode b_M_tell 195 = .ok (.iload 4, 2) := by decide +kernel
theorem d_M_tell_197 : decode b_M_tell 197 = .ok (.imul, 1) := by decide +kernel
theorem d_M_tell_198 : decode b_M_tell 198 = .ok (.iload_n 3, 1) := by decide +kernel
theorem d_M_tell_199 : decode b_M_tell 199 = .ok (.iadd, 1) := by decide +kernel
theorem d_M_tell_200 : decode b_M_tell 200 = .ok (.aload_n 0, 1) := by decide +kernel
theorem d_M_tell_201 : decode b_M_tell 201 = .ok (.getfield 26, 3) := by decide +kernel
theorem d_M_tell_204 : decode b_M_tell 204 = .ok (.bipush 120, 2) := by decide +kernel
theorem d_M_tell_206 : decode b_M_tell 206 = .ok (.iload_n 3, 1) := by decide +kernel
theorem d_M_tell_207 : decode b_M_tell 207 = .ok (.imul, 1) := by decide +kernel
theorem d_M_tell_208 : decode b_M_tell 208 = .ok (.iload 4, 2) := by decide +kernel
theorem d_M_tell_210 : decode b_M_tell 210 = .ok (.iadd, 1) := by decide +kernel
theorem d_M_tell_211 : decode b_M_tell 211 = .ok (.iaload, 1) := by decide +kernel
theorem d_M_tell_212 : decode b_M_tell 212 = .ok (.iastore, 1) := by decide +kernel
theorem d_M_tell_213 : decode b_M_tell 213 = .ok (.aload_n 0, 1) := by decide +kernel
theorem d_M_tell_214 : decode b_M_tell 214 = .ok (.getfield 29, 3) := by decide +kernel
theorem d_M_tell_217 : decode b_M_tell 217 = .ok (.bipush 120, 2) := by decide +kernel
theorem d_M_tell_219 : decode b_M_tell 219 = .ok (.iload 4, 2) := by decide +kernel
theorem d_M_tell_221 : decode b_M_tell 221 = .ok (.imul, 1) := by decide +kernel
theorem d_M_tell_222 : decode b_M_tell 222 = .ok (.iload_n 3, 1) := by decide +kernel
theorem d_M_tell_223 : decode b_M_tell 223 = .ok (.iadd, 1) := by decide +kernel
theorem d_M_tell_224 : decode b_M_tell 224 = .ok (.aload_n 0, 1) := by decide +kernel
theorem d_M_tell_225 : decode b_M_tell 225 = .ok (.getfield 29, 3) := by decide +kernel
theorem d_M_tell_228 : decode b_M_tell 228 = .ok (.bipush 120, 2) := by decide +kernel
theorem d_M_tell_230 : decode b_M_tell 230 = .ok (.iload_n 3, 1) := by decide +kernel
theorem d_M_tell_231 : decode b_M_tell 231 = .ok (.imul, 1) := by decide +kernel
theorem d_M_tell_232 : decode b_M_tell 232 = .ok (.iload 4, 2) := by decide +kernel
theorem d_M_tell_234 : decode b_M_tell 234 = .ok (.iadd, 1) := by decide +kernel
theorem d_M_tell_235 : decode b_M_tell 235 = .ok (.iaload, 1) := by decide +kernel
theorem d_M_tell_236 : decode b_M_tell 236 = .ok (.iastore, 1) := by decide +kernel
theorem d_M_tell_237 : decode b_M_tell 237 = .ok (.iinc 4 1, 3) := by decide +kernel
theorem d_M_tell_240 : decode b_M_tell 240 = .ok (.goto (-225), 3) := by decide +kernel
theorem d_M_tell_243 : decode b_M_tell 243 = .ok (.iinc 3 1, 3) := by decide +kernel
theorem d_M_tell_246 : decode b_M_tell 246 = .ok (.goto (-242), 3) := by decide +kernel
theorem d_M_tell_249 : decode b_M_tell 249 = .ok (.iload_n 2, 1) := by decide +kernel
theorem d_M_tell_250 : decode b_M_tell 250 = .ok (.ireturn, 1) := by decide +kernel
theorem d_M_leastLike_0 : decode b_M_leastLike 0 = .ok (.iconst 0, 1) := by decide +kernel
theorem d_M_leastLike_1 : decode b_M_leastLike 1 = .ok (.istore_n 2, 1) := by decide +kernel
theorem d_M_leastLike_2 : decode b_M_leastLike 2 = .ok (.aload_n 0, 1) := by decide +kernel
theorem d_M_leastLike_3 : decode b_M_leastLike 3 = .ok (.getfield 26, 3) := by decide +kernel
theorem d_M_leastLike_6 : decode b_M_leastLike 6 = .ok (.bipush 120, 2) := by decide +kernel
theorem d_M_leastLike_8 : decode b_M_leastLike 8 = .ok (.iload_n 1, 1) := by decide +kernel
theorem d_M_leastLike_9 : decode b_M_leastLike 9 = .ok (.imul, 1) := by decide +kernel
theorem d_M_leastLike_10 : decode b_M_leastLike 10 = .ok (.iload_n 2, 1) := by decide +kernel
theorem d_M_leastLike_11 : decode b_M_leastLike 11 = .ok (.iadd, 1) := by decide +kernel
theorem d_M_leastLike_12 : decode b_M_leastLike 12 = .ok (.iaload, 1) := by decide +kernel
theorem d_M_leastLike_13 : decode b_M_leastLike 13 = .ok (.ifCond .le 9, 3) := by decide +kernel
theorem d_M_leastLike_16 : decode b_M_leastLike 16 = .ok (.iinc 2 1, 3) := by decide +kernel
theorem d_M_leastLike_19 : decode b_M_leastLike 19 = .ok (.goto (-17), 3) := by decide +kernel
theorem d_M_leastLike_22 : decode b_M_leastLike 22 = .ok (.iload_n 2, 1) := by decide +kernel
theorem d_M_leastLike_23 : decode b_M_leastLike 23 = .ok (.ireturn, 1) := by decide +kernel
theorem d_W_home_0 : decode b_W_home 0 = .ok (.aload_n 0, 1) := by decide +kernel
theorem d_W_home_1 : decode b_W_home 1 = .ok (.iconst 0, 1) := by decide +kernel
theorem d_W_home_2 : decode b_W_home 2 = .ok (.putfield 23, 3) := by decide +kernel
theorem d_W_home_5 : decode b_W_home 5 = .ok (.return_, 1) := by decide +kernel
theorem d_M_home_0 : decode b_M_home 0 = .ok (.aload_n 0, 1) := by decide +kernel
theorem d_M_home_1 : decode b_M_home 1 = .ok (.iconst 0, 1) := by decide +kernel
theorem d_M_home_2 : decode b_M_home 2 = .ok (.putfield 48, 3) := by decide +kernel
theorem d_M_home_5 : decode b_M_home 5 = .ok (.aload_n 0, 1) := by decide +kernel
theorem d_M_home_6 : decode b_M_home 6 = .ok (.iconst 0, 1) := by decide +kernel
theorem d_M_home_7 : decode b_M_home 7 = .ok (.putfield 92, 3) := by decide +kernel
theorem d_M_home_10 : decode b_M_home 10 = .ok (.return_, 1) := by decide +kernel
theorem d_W_go_0 : decode b_W_go 0 = .ok (.aload_n 0, 1) := by decide +kernel
theorem d_W_go_1 : decode b_W_go 1 = .ok (.aload_n 0, 1) := by decide +kernel
theorem d_W_go_2 : decode b_W_go 2 = .ok (.getfield 23, 3) := by decide +kernel
theorem d_W_go_5 : decode b_W_go 5 = .ok (.iload_n 1, 1) := by decide +kernel
theorem d_W_go_6 : decode b_W_go 6 = .ok (.invokevirtual 69, 3) := by decide +kernel
theorem d_W_go_9 : decode b_W_go 9 = .ok (.istore_n 2, 1) := by decide +kernel
theorem d_W_go_10 : decode b_W_go 10 = .ok (.iload_n 2, 1) := by decide +kernel
theorem d_W_go_11 : decode b_W_go 11 = .ok (.iconst (-1), 1) := by decide +kernel
theorem d_W_go_12 : decode b_W_go 12 = .ok (.if_icmp .eq 8, 3) := by decide +kernel
theorem d_W_go_15 : decode b_W_go 15 = .ok (.aload_n 0, 1) := by decide +kernel
theorem d_W_go_16 : decode b_W_go 16 = .ok (.iload_n 2, 1) := by decide +kernel
theorem d_W_go_17 : decode b_W_go 17 = .ok (.putfield 23, 3) := by decide +kernel
theorem d_W_go_20 : decode b_W_go 20 = .ok (.iload_n 2, 1) := by decide +kernel
theorem d_W_go_21 : decode b_W_go 21 = .ok (.ireturn, 1) := by decide +kernel
theorem d_W_to_0 : decode b_W_to 0 = .ok (.aload_n 0, 1) := by decide +kernel
theorem d_W_to_1 : decode b_W_to 1 = .ok (.getfield 19, 3) := by decide +kernel
theorem d_W_to_4 : decode b_W_to 4 = .ok (.iload_n 1, 1) := by decide +kernel
theorem d_W_to_5 : decode b_W_to 5 = .ok (.invokevirtual 73, 3) := by decide +kernel
theorem d_W_to_8 : decode b_W_to 8 = .ok (.ifCond .eq 14, 3) := by decide +kernel
theorem d_W_to_11 : decode b_W_to 11 = .ok (.aload_n 0, 1) := by decide +kernel
theorem d_W_to_12 : decode b_W_to 12 = .ok (.getfield 19, 3) := by decide +kernel
theorem d_W_to_15 : decode b_W_to 15 = .ok (.iload_n 2, 1) := by decide +kernel
theorem d_W_to_16 : decode b_W_to 16 = .ok (.invokevirtual 76, 3) := by decide +kernel
theorem d_W_to_19 : decode b_W_to 19 = .ok (.ifCond .ne 5, 3) := by decide +kernel
theorem d_W_to_22 : decode b_W_to 22 = .ok (.iconst (-1), 1) := by decide +kernel
theorem d_W_to_23 : decode b_W_to 23 = .ok (.ireturn, 1) := by decide +kernel
theorem d_W_to_24 : decode b_W_to 24 = .ok (.aload_n 0, 1) := by decide +kernel
theorem d_W_to_25 : decode b_W_to 25 = .ok (.getfield 19, 3) := by decide +kernel
theorem d_W_to_28 : decode b_W_to 28 = .ok (.iload_n 1, 1) := by decide +kernel
theorem d_W_to_29 : decode b_W_to 29 = .ok (.iload_n 2, 1) := by decide +kernel
theorem d_W_to_30 : decode b_W_to 30 = .ok (.invokevirtual 77, 3) := by decide +kernel
theorem d_W_to_33 : decode b_W_to 33 = .ok (.ireturn, 1) := by decide +kernel
theorem d_T_hasState_0 : decode b_T_hasState 0 = .ok (.iload_n 1, 1) := by decide +kernel
theorem d_T_hasState_1 : decode b_T_hasState 1 = .ok (.ifCond .lt 15, 3) := by decide +kernel
theorem d_T_hasState_4 : decode b_T_hasState 4 = .ok (.iload_n 1, 1) := by decide +kernel
theorem d_T_hasState_5 : decode b_T_hasState 5 = .ok (.aload_n 0, 1) := by decide +kernel
theorem d_T_hasState_6 : decode b_T_hasState 6 = .ok (.getfield 18, 3) := by decide +kernel
theorem d_T_hasState_9 : decode b_T_hasState 9 = .ok (.if_icmp .ge 7, 3) := by decide +kernel
theorem d_T_hasState_12 : decode b_T_hasState 12 = .ok (.iconst 1, 1) := by decide +kernel
theorem d_T_hasState_13 : decode b_T_hasState 13 = .ok (.goto 4, 3) := by decide +kernel
theorem d_T_hasState_16 : decode b_T_hasState 16 = .ok (.iconst 0, 1) := by decide +kernel
theorem d_T_hasState_17 : decode b_T_hasState 17 = .ok (.ireturn, 1) := by decide +kernel
theorem d_T_hasLetter_0 : decode b_T_hasLetter 0 = .ok (.iload_n 1, 1) := by decide +kernel
theorem d_T_hasLetter_1 : decode b_T_hasLetter 1 = .ok (.ifCond .lt 15, 3) := by decide +kernel
theorem d_T_hasLetter_4 : decode b_T_hasLetter 4 = .ok (.iload_n 1, 1) := by decide +kernel
theorem d_T_hasLetter_5 : decode b_T_hasLetter 5 = .ok (.aload_n 0, 1) := by decide +kernel
theorem d_T_hasLetter_6 : decode b_T_hasLetter 6 = .ok (.getfield 9, 3) := by decide +kernel
theorem d_T_hasLetter_9 : decode b_T_hasLetter 9 = .ok (.if_icmp .ge 7, 3) := by decide +kernel
theorem d_T_hasLetter_12 : decode b_T_hasLetter 12 = .ok (.iconst 1, 1) := by decide +kernel
theorem d_T_hasLetter_13 : decode b_T_hasLetter 13 = .ok (.goto 4, 3) := by decide +kernel
theorem d_T_hasLetter_16 : decode b_T_hasLetter 16 = .ok (.iconst 0, 1) := by decide +kernel
theorem d_T_hasLetter_17 : decode b_T_hasLetter 17 = .ok (.ireturn, 1) := by decide +kernel
theorem d_T_stateAfter_0 : decode b_T_stateAfter 0 = .ok (.aload_n 0, 1) := by decide +kernel
theorem d_T_stateAfter_1 : decode b_T_stateAfter 1 = .ok (.getfield 31, 3) := by decide +kernel
theorem d_T_stateAfter_4 : decode b_T_stateAfter 4 = .ok (.aload_n 0, 1) := by decide +kernel
theorem d_T_stateAfter_5 : decode b_T_stateAfter 5 = .ok (.getfield 43, 3) := by decide +kernel
theorem d_T_stateAfter_8 : decode b_T_stateAfter 8 = .ok (.iload_n 1, 1) := by decide +kernel
theorem d_T_stateAfter_9 : decode b_T_stateAfter 9 = .ok (.iaload, 1) := by decide +kernel
theorem d_T_stateAfter_10 : decode b_T_stateAfter 10 = .ok (.bipush 40, 2) := by decide +kernel
theorem d_T_stateAfter_12 : decode b_T_stateAfter 12 = .ok (.imul, 1) := by decide +kernel
theorem d_T_stateAfter_13 : decode b_T_stateAfter 13 = .ok (.iload_n 2, 1) := by decide +kernel
theorem d_T_stateAfter_14 : decode b_T_stateAfter 14 = .ok (.iadd, 1) := by decide +kernel
theorem d_T_stateAfter_15 : decode b_T_stateAfter 15 = .ok (.iaload, 1) := by decide +kernel
theorem d_T_stateAfter_16 : decode b_T_stateAfter 16 = .ok (.istore_n 3, 1) := by decide +kernel
theorem d_T_stateAfter_17 : decode b_T_stateAfter 17 = .ok (.iload_n 3, 1) := by decide +kernel
theorem d_T_stateAfter_18 : decode b_T_stateAfter 18 = .ok (.iconst (-1), 1) := by decide +kernel
theorem d_T_stateAfter_19 : decode b_T_stateAfter 19 = .ok (.if_icmp .ne 7, 3) := by decide +kernel
theorem d_T_stateAfter_22 : decode b_T_stateAfter 22 = .ok (.iconst (-1), 1) := by decide +kernel
theorem d_T_stateAfter_23 : decode b_T_stateAfter 23 = .ok (.goto 9, 3) := by decide +kernel
theorem d_T_stateAfter_26 : decode b_T_stateAfter 26 = .ok (.aload_n 0, 1) := by decide +kernel
theorem d_T_stateAfter_27 : decode b_T_stateAfter 27 = .ok (.getfield 40, 3) := by decide +kernel
theorem d_T_stateAfter_30 : decode b_T_stateAfter 30 = .ok (.iload_n 3, 1) := by decide +kernel
theorem d_T_stateAfter_31 : decode b_T_stateAfter 31 = .ok (.iaload, 1) := by decide +kernel
theorem d_T_stateAfter_32 : decode b_T_stateAfter 32 = .ok (.ireturn, 1) := by decide +kernel
theorem d_M_go_0 : decode b_M_go 0 = .ok (.aload_n 0, 1) := by decide +kernel
theorem d_M_go_1 : decode b_M_go 1 = .ok (.iconst 0, 1) := by decide +kernel
theorem d_M_go_2 : decode b_M_go 2 = .ok (.putfield 48, 3) := by decide +kernel
theorem d_M_go_5 : decode b_M_go 5 = .ok (.iload_n 1, 1) := by decide +kernel
theorem d_M_go_6 : decode b_M_go 6 = .ok (.ifCond .lt 11, 3) := by decide +kernel
theorem d_M_go_9 : decode b_M_go 9 = .ok (.iload_n 1, 1) := by decide +kernel
theorem d_M_go_10 : decode b_M_go 10 = .ok (.aload_n 0, 1) := by decide +kernel
theorem d_M_go_11 : decode b_M_go 11 = .ok (.getfield 76, 3) := by decide +kernel
theorem d_M_go_14 : decode b_M_go 14 = .ok (.if_icmp .lt 7, 3) := by decide +kernel
theorem d_M_go_17 : decode b_M_go 17 = .ok (.iconst (-1), 1) := by decide +kernel
theorem d_M_go_18 : decode b_M_go 18 = .ok (.goto 12, 3) := by decide +kernel
theorem d_M_go_21 : decode b_M_go 21 = .ok (.aload_n 0, 1) := by decide +kernel
theorem d_M_go_22 : decode b_M_go 22 = .ok (.aload_n 0, 1) := by decide +kernel
theorem d_M_go_23 : decode b_M_go 23 = .ok (.getfield 92, 3) := by decide +kernel
theorem d_M_go_26 : decode b_M_go 26 = .ok (.iload_n 1, 1) := by decide +kernel
theorem d_M_go_27 : decode b_M_go 27 = .ok (.invokevirtual 95, 3) := by decide +kernel
theorem d_M_go_30 : decode b_M_go 30 = .ok (.istore_n 2, 1) := by decide +kernel
theorem d_M_go_31 : decode b_M_go 31 = .ok (.aload_n 0, 1) := by decide +kernel
theorem d_M_go_32 : decode b_M_go 32 = .ok (.iload_n 2, 1) := by decide +kernel
theorem d_M_go_33 : decode b_M_go 33 = .ok (.ifCond .ge 10, 3) := by decide +kernel
theorem d_M_go_36 : decode b_M_go 36 = .ok (.aload_n 0, 1) := by decide +kernel
theorem d_M_go_37 : decode b_M_go 37 = .ok (.getfield 92, 3) := by decide +kernel
theorem d_M_go_40 : decode b_M_go 40 = .ok (.goto 4, 3) := by decide +kernel
theorem d_M_go_43 : decode b_M_go 43 = .ok (.iload_n 2, 1) := by decide +kernel
theorem d_M_go_44 : decode b_M_go 44 = .ok (.putfield 92, 3) := by decide +kernel
theorem d_M_go_47 : decode b_M_go 47 = .ok (.iload_n 2, 1) := by decide +kernel
theorem d_M_go_48 : decode b_M_go 48 = .ok (.ireturn, 1) := by decide +kernel
theorem d_M_next_0 : decode b_M_next 0 = .ok (.aload_n 0, 1) := by decide +kernel
theorem d_M_next_1 : decode b_M_next 1 = .ok (.getfield 23, 3) := by decide +kernel
theorem d_M_next_4 : decode b_M_next 4 = .ok (.bipush 40, 2) := by decide +kernel
theorem d_M_next_6 : decode b_M_next 6 = .ok (.aload_n 0, 1) := by decide +kernel
theorem d_M_next_7 : decode b_M_next 7 = .ok (.getfield 35, 3) := by decide +kernel
theorem d_M_next_10 : decode b_M_next 10 = .ok (.iload_n 1, 1) := by decide +kernel
theorem d_M_next_11 : decode b_M_next 11 = .ok (.iaload, 1) := by decide +kernel
theorem d_M_next_12 : decode b_M_next 12 = .ok (.imul, 1) := by decide +kernel
theorem d_M_next_13 : decode b_M_next 13 = .ok (.iload_n 2, 1) := by decide +kernel
theorem d_M_next_14 : decode b_M_next 14 = .ok (.iadd, 1) := by decide +kernel
theorem d_M_next_15 : decode b_M_next 15 = .ok (.iaload, 1) := by decide +kernel
theorem d_M_next_16 : decode b_M_next 16 = .ok (.istore_n 3, 1) := by decide +kernel
theorem d_M_next_17 : decode b_M_next 17 = .ok (.iload_n 3, 1) := by decide +kernel
theorem d_M_next_18 : decode b_M_next 18 = .ok (.ifCond .ge 7, 3) := by decide +kernel
theorem d_M_next_21 : decode b_M_next 21 = .ok (.iconst (-1), 1) := by decide +kernel
theorem d_M_next_22 : decode b_M_next 22 = .ok (.goto 9, 3) := by decide +kernel
theorem d_M_next_25 : decode b_M_next 25 = .ok (.aload_n 0, 1) := by decide +kernel
theorem d_M_next_26 : decode b_M_next 26 = .ok (.getfield 32, 3) := by decide +kernel
theorem d_M_next_29 : decode b_M_next 29 = .ok (.iload_n 3, 1) := by decide +kernel
theorem d_M_next_30 : decode b_M_next 30 = .ok (.iaload, 1) := by decide +kernel
theorem d_M_next_31 : decode b_M_next 31 = .ok (.ireturn, 1) := by decide +kernel
theorem d_M_to_0 : decode b_M_to 0 = .ok (.aload_n 0, 1) := by decide +kernel
theorem d_M_to_1 : decode b_M_to 1 = .ok (.iconst 0, 1) := by decide +kernel
theorem d_M_to_2 : decode b_M_to 2 = .ok (.putfield 48, 3) := by decide +kernel
theorem d_M_to_5 : decode b_M_to 5 = .ok (.aload_n 0, 1) := by decide +kernel
theorem d_M_to_6 : decode b_M_to 6 = .ok (.iload_n 1, 1) := by decide +kernel
theorem d_M_to_7 : decode b_M_to 7 = .ok (.invokevirtual 98, 3) := by decide +kernel
theorem d_M_to_10 : decode b_M_to 10 = .ok (.ifCond .eq 15, 3) := by decide +kernel
theorem d_M_to_13 : decode b_M_to 13 = .ok (.iload_n 2, 1) := by decide +kernel
theorem d_M_to_14 : decode b_M_to 14 = .ok (.ifCond .lt 11, 3) := by decide +kernel
theorem d_M_to_17 : decode b_M_to 17 = .ok (.iload_n 2, 1) := by decide +kernel
theorem d_M_to_18 : decode b_M_to 18 = .ok (.aload_n 0, 1) := by decide +kernel
theorem d_M_to_19 : decode b_M_to 19 = .ok (.getfield 76, 3) := by decide +kernel
theorem d_M_to_22 : decode b_M_to 22 = .ok (.if_icmp .lt 7, 3) := by decide +kernel
theorem d_M_to_25 : decode b_M_to 25 = .ok (.iconst (-1), 1) := by decide +kernel
theorem d_M_to_26 : decode b_M_to 26 = .ok (.goto 9, 3) := by decide +kernel
theorem d_M_to_29 : decode b_M_to 29 = .ok (.aload_n 0, 1) := by decide +kernel
theorem d_M_to_30 : decode b_M_to 30 = .ok (.iload_n 1, 1) := by decide +kernel
theorem d_M_to_31 : decode b_M_to 31 = .ok (.iload_n 2, 1) := by decide +kernel
theorem d_M_to_32 : decode b_M_to 32 = .ok (.invokevirtual 95, 3) := by decide +kernel
theorem d_M_to_35 : decode b_M_to 35 = .ok (.ireturn, 1) := by decide +kernel
theorem d_M_isState_0 : decode b_M_isState 0 = .ok (.iload_n 1, 1) := by decide +kernel
theorem d_M_isState_1 : decode b_M_isState 1 = .ok (.ifCond .lt 15, 3) := by decide +kernel
theorem d_M_isState_4 : decode b_M_isState 4 = .ok (.iload_n 1, 1) := by decide +kernel
theorem d_M_isState_5 : decode b_M_isState 5 = .ok (.aload_n 0, 1) := by decide +kernel
theorem d_M_isState_6 : decode b_M_isState 6 = .ok (.getfield 85, 3) := by decide +kernel
theorem d_M_isState_9 : decode b_M_isState 9 = .ok (.if_icmp .ge 7, 3) := by decide +kernel
theorem d_M_isState_12 : decode b_M_isState 12 = .ok (.iconst 1, 1) := by decide +kernel
theorem d_M_isState_13 : decode b_M_isState 13 = .ok (.goto 4, 3) := by decide +kernel
theorem d_M_isState_16 : decode b_M_isState 16 = .ok (.iconst 0, 1) := by decide +kernel
theorem d_M_isState_17 : decode b_M_isState 17 = .ok (.ireturn, 1) := by decide +kernel
theorem d_W_nodes_0 : decode b_W_nodes 0 = .ok (.aload_n 0, 1) := by decide +kernel
theorem d_W_nodes_1 : decode b_W_nodes 1 = .ok (.getfield 19, 3) := by decide +kernel
theorem d_W_nodes_4 : decode b_W_nodes 4 = .ok (.iload_n 1, 1) := by decide +kernel
theorem d_W_nodes_5 : decode b_W_nodes 5 = .ok (.invokevirtual 80, 3) := by decide +kernel
theorem d_W_nodes_8 : decode b_W_nodes 8 = .ok (.ifCond .eq 15, 3) := by decide +kernel
theorem d_W_nodes_11 : decode b_W_nodes 11 = .ok (.aload_n 0, 1) := by decide +kernel
theorem d_W_nodes_12 : decode b_W_nodes 12 = .ok (.getfield 19, 3) := by decide +kernel
theorem d_W_nodes_15 : decode b_W_nodes 15 = .ok (.getfield 83, 3) := by decide +kernel
theorem d_W_nodes_18 : decode b_W_nodes 18 = .ok (.iload_n 1, 1) := by decide +kernel
theorem d_W_nodes_19 : decode b_W_nodes 19 = .ok (.iaload, 1) := by decide +kernel
theorem d_W_nodes_20 : decode b_W_nodes 20 = .ok (.goto 4, 3) := by decide +kernel
theorem d_W_nodes_23 : decode b_W_nodes 23 = .ok (.iconst 0, 1) := by decide +kernel
theorem d_W_nodes_24 : decode b_W_nodes 24 = .ok (.ireturn, 1) := by decide +kernel
theorem d_T_hasSet_0 : decode b_T_hasSet 0 = .ok (.iload_n 1, 1) := by decide +kernel
theorem d_T_hasSet_1 : decode b_T_hasSet 1 = .ok (.ifCond .lt 15, 3) := by decide +kernel
theorem d_T_hasSet_4 : decode b_T_hasSet 4 = .ok (.iload_n 1, 1) := by decide +kernel
theorem d_T_hasSet_5 : decode b_T_hasSet 5 = .ok (.aload_n 0, 1) := by decide +kernel
theorem d_T_hasSet_6 : decode b_T_hasSet 6 = .ok (.getfield 15, 3) := by decide +kernel
theorem d_T_hasSet_9 : decode b_T_hasSet 9 = .ok (.if_icmp .ge 7, 3) := by decide +kernel
theorem d_T_hasSet_12 : decode b_T_hasSet 12 = .ok (.iconst 1, 1) := by decide +kernel
theorem d_T_hasSet_13 : decode b_T_hasSet 13 = .ok (.goto 4, 3) := by decide +kernel
theorem d_T_hasSet_16 : decode b_T_hasSet 16 = .ok (.iconst 0, 1) := by decide +kernel
theorem d_T_hasSet_17 : decode b_T_hasSet 17 = .ok (.ireturn, 1) := by decide +kernel
theorem d_M_nodes_0 : decode b_M_nodes 0 = .ok (.aload_n 0, 1) := by decide +kernel
theorem d_M_nodes_1 : decode b_M_nodes 1 = .ok (.iconst 0, 1) := by decide +kernel
theorem d_M_nodes_2 : decode b_M_nodes 2 = .ok (.putfield 48, 3) := by decide +kernel
theorem d_M_nodes_5 : decode b_M_nodes 5 = .ok (.iload_n 1, 1) := by decide +kernel
theorem d_M_nodes_6 : decode b_M_nodes 6 = .ok (.ifCond .lt 11, 3) := by decide +kernel
theorem d_M_nodes_9 : decode b_M_nodes 9 = .ok (.iload_n 1, 1) := by decide +kernel
theorem d_M_nodes_10 : decode b_M_nodes 10 = .ok (.aload_n 0, 1) := by decide +kernel
theorem d_M_nodes_11 : decode b_M_nodes 11 = .ok (.getfield 73, 3) := by decide +kernel
theorem d_M_nodes_14 : decode b_M_nodes 14 = .ok (.if_icmp .lt 7, 3) := by decide +kernel
theorem d_M_nodes_17 : decode b_M_nodes 17 = .ok (.iconst 0, 1) := by decide +kernel
theorem d_M_nodes_18 : decode b_M_nodes 18 = .ok (.goto 9, 3) := by decide +kernel
theorem d_M_nodes_21 : decode b_M_nodes 21 = .ok (.aload_n 0, 1) := by decide +kernel
theorem d_M_nodes_22 : decode b_M_nodes 22 = .ok (.getfield 20, 3) := by decide +kernel
theorem d_M_nodes_25 : decode b_M_nodes 25 = .ok (.iload_n 1, 1) := by decide +kernel
theorem d_M_nodes_26 : decode b_M_nodes 26 = .ok (.iaload, 1) := by decide +kernel
theorem d_M_nodes_27 : decode b_M_nodes 27 = .ok (.ireturn, 1) := by decide +kernel
theorem d_W_state_0 : decode b_W_state 0 = .ok (.aload_n 0, 1) := by decide +kernel
theorem d_W_state_1 : decode b_W_state 1 = .ok (.getfield 19, 3) := by decide +kernel
theorem d_W_state_4 : decode b_W_state 4 = .ok (.iload_n 1, 1) := by decide +kernel
theorem d_W_state_5 : decode b_W_state 5 = .ok (.invokevirtual 80, 3) := by decide +kernel
theorem d_W_state_8 : decode b_W_state 8 = .ok (.ifCond .eq 15, 3) := by decide +kernel
theorem d_W_state_11 : decode b_W_state 11 = .ok (.aload_n 0, 1) := by decide +kernel
theorem d_W_state_12 : decode b_W_state 12 = .ok (.getfield 19, 3) := by decide +kernel
theorem d_W_state_15 : decode b_W_state 15 = .ok (.getfield 87, 3) := by decide +kernel
theorem d_W_state_18 : decode b_W_state 18 = .ok (.iload_n 1, 1) := by decide +kernel
theorem d_W_state_19 : decode b_W_state 19 = .ok (.iaload, 1) := by decide +kernel
theorem d_W_state_20 : decode b_W_state 20 = .ok (.goto 4, 3) := by decide +kernel
theorem d_W_state_23 : decode b_W_state 23 = .ok (.iconst (-1), 1) := by decide +kernel
theorem d_W_state_24 : decode b_W_state 24 = .ok (.ireturn, 1) := by decide +kernel
theorem d_M_state_0 : decode b_M_state 0 = .ok (.aload_n 0, 1) := by decide +kernel
theorem d_M_state_1 : decode b_M_state 1 = .ok (.iconst 0, 1) := by decide +kernel
theorem d_M_state_2 : decode b_M_state 2 = .ok (.putfield 48, 3) := by decide +kernel
theorem d_M_state_5 : decode b_M_state 5 = .ok (.iload_n 1, 1) := by decide +kernel
theorem d_M_state_6 : decode b_M_state 6 = .ok (.ifCond .lt 11, 3) := by decide +kernel
theorem d_M_state_9 : decode b_M_state 9 = .ok (.iload_n 1, 1) := by decide +kernel
theorem d_M_state_10 : decode b_M_state 10 = .ok (.aload_n 0, 1) := by decide +kernel
theorem d_M_state_11 : decode b_M_state 11 = .ok (.getfield 73, 3) := by decide +kernel
theorem d_M_state_14 : decode b_M_state 14 = .ok (.if_icmp .lt 7, 3) := by decide +kernel
theorem d_M_state_17 : decode b_M_state 17 = .ok (.iconst (-1), 1) := by decide +kernel
theorem d_M_state_18 : decode b_M_state 18 = .ok (.goto 9, 3) := by decide +kernel
theorem d_M_state_21 : decode b_M_state 21 = .ok (.aload_n 0, 1) := by decide +kernel
theorem d_M_state_22 : decode b_M_state 22 = .ok (.getfield 32, 3) := by decide +kernel
theorem d_M_state_25 : decode b_M_state 25 = .ok (.iload_n 1, 1) := by decide +kernel
theorem d_M_state_26 : decode b_M_state 26 = .ok (.iaload, 1) := by decide +kernel
theorem d_M_state_27 : decode b_M_state 27 = .ok (.ireturn, 1) := by decide +kernel
theorem d_W_apart_0 : decode b_W_apart 0 = .ok (.aload_n 0, 1) := by decide +kernel
theorem d_W_apart_1 : decode b_W_apart 1 = .ok (.getfield 19, 3) := by decide +kernel
theorem d_W_apart_4 : decode b_W_apart 4 = .ok (.iload_n 1, 1) := by decide +kernel
theorem d_W_apart_5 : decode b_W_apart 5 = .ok (.invokevirtual 73, 3) := by decide +kernel
theorem d_W_apart_8 : decode b_W_apart 8 = .ok (.ifCond .eq 14, 3) := by decide +kernel
theorem d_W_apart_11 : decode b_W_apart 11 = .ok (.aload_n 0, 1) := by decide +kernel
theorem d_W_apart_12 : decode b_W_apart 12 = .ok (.getfield 19, 3) := by decide +kernel
theorem d_W_apart_15 : decode b_W_apart 15 = .ok (.iload_n 2, 1) := by decide +kernel
theorem d_W_apart_16 : decode b_W_apart 16 = .ok (.invokevirtual 73, 3) := by decide +kernel
theorem d_W_apart_19 : decode b_W_apart 19 = .ok (.ifCond .ne 5, 3) := by decide +kernel
theorem d_W_apart_22 : decode b_W_apart 22 = .ok (.iconst (-1), 1) := by decide +kernel
theorem d_W_apart_23 : decode b_W_apart 23 = .ok (.ireturn, 1) := by decide +kernel
theorem d_W_apart_24 : decode b_W_apart 24 = .ok (.aload_n 0, 1) := by decide +kernel
theorem d_W_apart_25 : decode b_W_apart 25 = .ok (.getfield 19, 3) := by decide +kernel
theorem d_W_apart_28 : decode b_W_apart 28 = .ok (.iload_n 1, 1) := by decide +kernel
theorem d_W_apart_29 : decode b_W_apart 29 = .ok (.iload_n 2, 1) := by decide +kernel
theorem d_W_apart_30 : decode b_W_apart 30 = .ok (.invokevirtual 90, 3) := by decide +kernel
theorem d_W_apart_33 : decode b_W_apart 33 = .ok (.ireturn, 1) := by decide +kernel
theorem d_T_rowLength_0 : decode b_T_rowLength 0 = .ok (.iload_n 1, 1) := by decide +kernel
theorem d_T_rowLength_1 : decode b_T_rowLength 1 = .ok (.iload_n 2, 1) := by decide +kernel
theorem d_T_rowLength_2 : decode b_T_rowLength 2 = .ok (.if_icmp .ne 7, 3) := by decide +kernel
theorem d_T_rowLength_5 : decode b_T_rowLength 5 = .ok (.iconst 0, 1) := by decide +kernel
theorem d_T_rowLength_6 : decode b_T_rowLength 6 = .ok (.goto 23, 3) := by decide +kernel
theorem d_T_rowLength_9 : decode b_T_rowLength 9 = .ok (.aload_n 0, 1) := by decide +kernel
theorem d_T_rowLength_10 : decode b_T_rowLength 10 = .ok (.getfield 46, 3) := by decide +kernel
theorem d_T_rowLength_13 : decode b_T_rowLength 13 = .ok (.aload_n 0, 1) := by decide +kernel
theorem d_T_rowLength_14 : decode b_T_rowLength 14 = .ok (.getfield 43, 3) := by decide +kernel
theorem d_T_rowLength_17 : decode b_T_rowLength 17 = .ok (.iload_n 1, 1) := by decide +kernel
theorem d_T_rowLength_18 : decode b_T_rowLength 18 = .ok (.iaload, 1) := by decide +kernel
theorem d_T_rowLength_19 : decode b_T_rowLength 19 = .ok (.aload_n 0, 1) := by decide +kernel
theorem d_T_rowLength_20 : decode b_T_rowLength 20 = .ok (.getfield 43, 3) := by decide +kernel
theorem d_T_rowLength_23 : decode b_T_rowLength 23 = .ok (.iload_n 2, 1) := by decide +kernel
theorem d_T_rowLength_24 : decode b_T_rowLength 24 = .ok (.iaload, 1) := by decide +kernel
theorem d_T_rowLength_25 : decode b_T_rowLength 25 = .ok (.invokestatic 108, 3) := by decide +kernel
theorem d_T_rowLength_28 : decode b_T_rowLength 28 = .ok (.iaload, 1) := by decide +kernel
theorem d_T_rowLength_29 : decode b_T_rowLength 29 = .ok (.ireturn, 1) := by decide +kernel
theorem d_M_apart_0 : decode b_M_apart 0 = .ok (.aload_n 0, 1) := by decide +kernel
theorem d_M_apart_1 : decode b_M_apart 1 = .ok (.iconst 0, 1) := by decide +kernel
theorem d_M_apart_2 : decode b_M_apart 2 = .ok (.putfield 48, 3) := by decide +kernel
theorem d_M_apart_5 : decode b_M_apart 5 = .ok (.aload_n 0, 1) := by decide +kernel
theorem d_M_apart_6 : decode b_M_apart 6 = .ok (.iload_n 1, 1) := by decide +kernel
theorem d_M_apart_7 : decode b_M_apart 7 = .ok (.invokevirtual 98, 3) := by decide +kernel
theorem d_M_apart_10 : decode b_M_apart 10 = .ok (.ifCond .eq 59, 3) := by decide +kernel
theorem d_M_apart_13 : decode b_M_apart 13 = .ok (.aload_n 0, 1) := by decide +kernel
theorem d_M_apart_14 : decode b_M_apart 14 = .ok (.iload_n 2, 1) := by decide +kernel
theorem d_M_apart_15 : decode b_M_apart 15 = .ok (.invokevirtual 98, 3) := by decide +kernel
theorem d_M_apart_18 : decode b_M_apart 18 = .ok (.ifCond .eq 51, 3) := by decide +kernel
theorem d_M_apart_21 : decode b_M_apart 21 = .ok (.aload_n 0, 1) := by decide +kernel
theorem d_M_apart_22 : decode b_M_apart 22 = .ok (.getfield 26, 3) := by decide +kernel
theorem d_M_apart_25 : decode b_M_apart 25 = .ok (.bipush 120, 2) := by decide +kernel
theorem d_M_apart_27 : decode b_M_apart 27 = .ok (.aload_n 0, 1) := by decide +kernel
theorem d_M_apart_28 : decode b_M_apart 28 = .ok (.getfield 35, 3) := by decide +kernel
theorem d_M_apart_31 : decode b_M_apart 31 = .ok (.aload_n 0, 1) := by decide +kernel
theorem d_M_apart_32 : decode b_M_apart 32 = .ok (.iload_n 1, 1) := by decide +kernel
theorem d_M_apart_33 : decode b_M_apart 33 = .ok (.invokevirtual 98, 3) := by decide +kernel
theorem d_M_apart_36 : decode b_M_apart 36 = .ok (.ifCond .eq 7, 3) := by decide +kernel
theorem d_M_apart_39 : decode b_M_apart 39 = .ok (.iload_n 1, 1) := by decide +kernel
theorem d_M_apart_40 : decode b_M_apart 40 = .ok (.goto 4, 3) := by decide +kernel
theorem d_M_apart_43 : decode b_M_apart 43 = .ok (.iconst 0, 1) := by decide +kernel
theorem d_M_apart_44 : decode b_M_apart 44 = .ok (.iaload, 1) := by decide +kernel
theorem d_M_apart_45 : decode b_M_apart 45 = .ok (.imul, 1) := by decide +kernel
theorem d_M_apart_46 : decode b_M_apart 46 = .ok (.aload_n 0, 1) := by decide +kernel
theorem d_M_apart_47 : decode b_M_apart 47 = .ok (.getfield 35, 3) := by decide +kernel
theorem d_M_apart_50 : decode b_M_apart 50 = .ok (.aload_n 0, 1) := by decide +kernel
theorem d_M_apart_51 : decode b_M_apart 51 = .ok (.iload_n 2, 1) := by decide +kernel
theorem d_M_apart_52 : decode b_M_apart 52 = .ok (.invokevirtual 98, 3) := by decide +kernel
theorem d_M_apart_55 : decode b_M_apart 55 = .ok (.ifCond .eq 7, 3) := by decide +kernel
theorem d_M_apart_58 : decode b_M_apart 58 = .ok (.iload_n 2, 1) := by decide +kernel
theorem d_M_apart_59 : decode b_M_apart 59 = .ok (.goto 4, 3) := by decide +kernel
theorem d_M_apart_62 : decode b_M_apart 62 = .ok (.iconst 0, 1) := by decide +kernel
theorem d_M_apart_63 : decode b_M_apart 63 = .ok (.iaload, 1) := by decide +kernel
theorem d_M_apart_64 : decode b_M_apart 64 = .ok (.iadd, 1) := by decide +kernel
theorem d_M_apart_65 : decode b_M_apart 65 = .ok (.iaload, 1) := by decide +kernel
theorem d_M_apart_66 : decode b_M_apart 66 = .ok (.goto 4, 3) := by decide +kernel
theorem d_M_apart_69 : decode b_M_apart 69 = .ok (.iconst (-1), 1) := by decide +kernel
theorem d_M_apart_70 : decode b_M_apart 70 = .ok (.ireturn, 1) := by decide +kernel
theorem d_W_apartBy_0 : decode b_W_apartBy 0 = .ok (.iload_n 3, 1) := by decide +kernel
theorem d_W_apartBy_1 : decode b_W_apartBy 1 = .ok (.ifCond .lt 13, 3) := by decide +kernel
theorem d_W_apartBy_4 : decode b_W_apartBy 4 = .ok (.iload_n 3, 1) := by decide +kernel
theorem d_W_apartBy_5 : decode b_W_apartBy 5 = .ok (.aload_n 0, 1) := by decide +kernel
theorem d_W_apartBy_6 : decode b_W_apartBy 6 = .ok (.iload_n 1, 1) := by decide +kernel
theorem d_W_apartBy_7 : decode b_W_apartBy 7 = .ok (.iload_n 2, 1) := by decide +kernel
theorem d_W_apartBy_8 : decode b_W_apartBy 8 = .ok (.invokevirtual 93, 3) := by decide +kernel
theorem d_W_apartBy_11 : decode b_W_apartBy 11 = .ok (.if_icmp .lt 5, 3) := by decide +kernel
theorem d_W_apartBy_14 : decode b_W_apartBy 14 = .ok (.iconst (-1), 1) := by decide +kernel
theorem d_W_apartBy_15 : decode b_W_apartBy 15 = .ok (.ireturn, 1) := by decide +kernel
theorem d_W_apartBy_16 : decode b_W_apartBy 16 = .ok (.aload_n 0, 1) := by decide +kernel
theorem d_W_apartBy_17 : decode b_W_apartBy 17 = .ok (.getfield 19, 3) := by decide +kernel
theorem d_W_apartBy_20 : decode b_W_apartBy 20 = .ok (.iload_n 1, 1) := by decide +kernel
theorem d_W_apartBy_21 : decode b_W_apartBy 21 = .ok (.iload_n 2, 1) := by decide +kernel
theorem d_W_apartBy_22 : decode b_W_apartBy 22 = .ok (.iload_n 3, 1) := by decide +kernel
theorem d_W_apartBy_23 : decode b_W_apartBy 23 = .ok (.invokevirtual 96, 3) := by decide +kernel
theorem d_W_apartBy_26 : decode b_W_apartBy 26 = .ok (.ireturn, 1) := by decide +kernel
theorem d_T_rowLetter_0 : decode b_T_rowLetter 0 = .ok (.aload_n 0, 1) := by decide +kernel
theorem d_T_rowLetter_1 : decode b_T_rowLetter 1 = .ok (.getfield 43, 3) := by decide +kernel
theorem d_T_rowLetter_4 : decode b_T_rowLetter 4 = .ok (.iload_n 1, 1) := by decide +kernel
theorem d_T_rowLetter_5 : decode b_T_rowLetter 5 = .ok (.iaload, 1) := by decide +kernel
theorem d_T_rowLetter_6 : decode b_T_rowLetter 6 = .ok (.istore 4, 2) := by decide +kernel
theorem d_T_rowLetter_8 : decode b_T_rowLetter 8 = .ok (.aload_n 0, 1) := by decide +kernel
theorem d_T_rowLetter_9 : decode b_T_rowLetter 9 = .ok (.getfield 43, 3) := by decide +kernel
theorem d_T_rowLetter_12 : decode b_T_rowLetter 12 = .ok (.iload_n 2, 1) := by decide +kernel
theorem d_T_rowLetter_13 : decode b_T_rowLetter 13 = .ok (.iaload, 1) := by decide +kernel
theorem d_T_rowLetter_14 : decode b_T_rowLetter 14 = .ok (.istore 5, 2) := by decide +kernel
theorem d_T_rowLetter_16 : decode b_T_rowLetter 16 = .ok (.aload_n 0, 1) := by decide +kernel
theorem d_T_rowLetter_17 : decode b_T_rowLetter 17 = .ok (.iload_n 1, 1) := by decide +kernel
theorem d_T_rowLetter_18 : decode b_T_rowLetter 18 = .ok (.iload_n 2, 1) := by decide +kernel
theorem d_T_rowLetter_19 : decode b_T_rowLetter 19 = .ok (.invokevirtual 122, 3) := by decide +kernel
theorem d_T_rowLetter_22 : decode b_T_rowLetter 22 = .ok (.iconst 1, 1) := by decide +kernel
theorem d_T_rowLetter_23 : decode b_T_rowLetter 23 = .ok (.isub, 1) := by decide +kernel
theorem d_T_rowLetter_24 : decode b_T_rowLetter 24 = .ok (.istore 6, 2) := by decide +kernel
theorem d_T_rowLetter_26 : decode b_T_rowLetter 26 = .ok (.aload_n 0, 1) := by decide +kernel
theorem d_T_rowLetter_27 : decode b_T_rowLetter 27 = .ok (.iload 4, 2) := by decide +kernel
theorem d_T_rowLetter_29 : decode b_T_rowLetter 29 = .ok (.iload 5, 2) := by decide +kernel
theorem d_T_rowLetter_31 : decode b_T_rowLetter 31 = .ok (.iload 6, 2) := by decide +kernel
theorem d_T_rowLetter_33 : decode b_T_rowLetter 33 = .ok (.invokevirtual 125, 3) := by decide +kernel
theorem d_T_rowLetter_36 : decode b_T_rowLetter 36 = .ok (.istore 7, 2) := by decide +kernel
theorem d_T_rowLetter_38 : decode b_T_rowLetter 38 = .ok (.iconst 0, 1) := by decide +kernel
theorem d_T_rowLetter_39 : decode b_T_rowLetter 39 = .ok (.istore 8, 2) := by decide +kernel
theorem d_T_rowLetter_41 : decode b_T_rowLetter 41 = .ok (.iload 8, 2) := by decide +kernel
