theorem dX8_check_2 : decode cX8_check 2 = .ok (.iconst 0, 1) := by decide +kernel
theorem dX8_check_3 : decode cX8_check 3 = .ok (.istore 4, 2) := by decide +kernel
theorem dX8_check_5 : decode cX8_check 5 = .ok (.iload 4, 2) := by decide +kernel
theorem dX8_check_7 : decode cX8_check 7 = .ok (.iload_n 2, 1) := by decide +kernel
theorem dX8_check_8 : decode cX8_check 8 = .ok (.if_icmp .ge 88, 3) := by decide +kernel
theorem dX8_check_11 : decode cX8_check 11 = .ok (.aload_n 0, 1) := by decide +kernel
theorem dX8_check_12 : decode cX8_check 12 = .ok (.getfield 67, 3) := by decide +kernel
theorem dX8_check_15 : decode cX8_check 15 = .ok (.iload_n 1, 1) := by decide +kernel
theorem dX8_check_16 : decode cX8_check 16 = .ok (.iload 4, 2) := by decide +kernel
theorem dX8_check_18 : decode cX8_check 18 = .ok (.iadd, 1) := by decide +kernel
theorem dX8_check_19 : decode cX8_check 19 = .ok (.baload, 1) := by decide +kernel
theorem dX8_check_20 : decode cX8_check 20 = .ok (.sipush 255, 3) := by decide +kernel
theorem dX8_check_23 : decode cX8_check 23 = .ok (.iand, 1) := by decide +kernel
theorem dX8_check_24 : decode cX8_check 24 = .ok (.istore 5, 2) := by decide +kernel
theorem dX8_check_26 : decode cX8_check 26 = .ok (.aload_n 0, 1) := by decide +kernel
theorem dX8_check_27 : decode cX8_check 27 = .ok (.getfield 64, 3) := by decide +kernel
theorem dX8_check_30 : decode cX8_check 30 = .ok (.ifCond .ne 15, 3) := by decide +kernel
theorem dX8_check_33 : decode cX8_check 33 = .ok (.iload_n 3, 1) := by decide +kernel
theorem dX8_check_34 : decode cX8_check 34 = .ok (.iload 5, 2) := by decide +kernel
theorem dX8_check_36 : decode cX8_check 36 = .ok (.iadd, 1) := by decide +kernel
theorem dX8_check_37 : decode cX8_check 37 = .ok (.sipush 255, 3) := by decide +kernel
theorem dX8_check_40 : decode cX8_check 40 = .ok (.iand, 1) := by decide +kernel
theorem dX8_check_41 : decode cX8_check 41 = .ok (.istore_n 3, 1) := by decide +kernel
theorem dX8_check_42 : decode cX8_check 42 = .ok (.goto 48, 3) := by decide +kernel
theorem dX8_check_45 : decode cX8_check 45 = .ok (.iload_n 3, 1) := by decide +kernel
theorem dX8_check_46 : decode cX8_check 46 = .ok (.iconst 4, 1) := by decide +kernel
theorem dX8_check_47 : decode cX8_check 47 = .ok (.ishl, 1) := by decide +kernel
theorem dX8_check_48 : decode cX8_check 48 = .ok (.ldc 131, 2) := by decide +kernel
theorem dX8_check_50 : decode cX8_check 50 = .ok (.iand, 1) := by decide +kernel
theorem dX8_check_51 : decode cX8_check 51 = .ok (.aload_n 0, 1) := by decide +kernel
theorem dX8_check_52 : decode cX8_check 52 = .ok (.getfield 13, 3) := by decide +kernel
theorem dX8_check_55 : decode cX8_check 55 = .ok (.iload_n 3, 1) := by decide +kernel
theorem dX8_check_56 : decode cX8_check 56 = .ok (.bipush 12, 2) := by decide +kernel
theorem dX8_check_58 : decode cX8_check 58 = .ok (.ishr, 1) := by decide +kernel
theorem dX8_check_59 : decode cX8_check 59 = .ok (.iload 5, 2) := by decide +kernel
theorem dX8_check_61 : decode cX8_check 61 = .ok (.iconst 4, 1) := by decide +kernel
theorem dX8_check_62 : decode cX8_check 62 = .ok (.ishr, 1) := by decide +kernel
theorem dX8_check_63 : decode cX8_check 63 = .ok (.ixor, 1) := by decide +kernel
theorem dX8_check_64 : decode cX8_check 64 = .ok (.iaload, 1) := by decide +kernel
theorem dX8_check_65 : decode cX8_check 65 = .ok (.ixor, 1) := by decide +kernel
theorem dX8_check_66 : decode cX8_check 66 = .ok (.istore_n 3, 1) := by decide +kernel
theorem dX8_check_67 : decode cX8_check 67 = .ok (.iload_n 3, 1) := by decide +kernel
theorem dX8_check_68 : decode cX8_check 68 = .ok (.iconst 4, 1) := by decide +kernel
theorem dX8_check_69 : decode cX8_check 69 = .ok (.ishl, 1) := by decide +kernel
theorem dX8_check_70 : decode cX8_check 70 = .ok (.ldc 131, 2) := by decide +kernel
theorem dX8_check_72 : decode cX8_check 72 = .ok (.iand, 1) := by decide +kernel
theorem dX8_check_73 : decode cX8_check 73 = .ok (.aload_n 0, 1) := by decide +kernel
theorem dX8_check_74 : decode cX8_check 74 = .ok (.getfield 13, 3) := by decide +kernel
theorem dX8_check_77 : decode cX8_check 77 = .ok (.iload_n 3, 1) := by decide +kernel
theorem dX8_check_78 : decode cX8_check 78 = .ok (.bipush 12, 2) := by decide +kernel
theorem dX8_check_80 : decode cX8_check 80 = .ok (.ishr, 1) := by decide +kernel
theorem dX8_check_81 : decode cX8_check 81 = .ok (.iload 5, 2) := by decide +kernel
theorem dX8_check_83 : decode cX8_check 83 = .ok (.bipush 15, 2) := by decide +kernel
theorem dX8_check_85 : decode cX8_check 85 = .ok (.iand, 1) := by decide +kernel
theorem dX8_check_86 : decode cX8_check 86 = .ok (.ixor, 1) := by decide +kernel
theorem dX8_check_87 : decode cX8_check 87 = .ok (.iaload, 1) := by decide +kernel
theorem dX8_check_88 : decode cX8_check 88 = .ok (.ixor, 1) := by decide +kernel
theorem dX8_check_89 : decode cX8_check 89 = .ok (.istore_n 3, 1) := by decide +kernel
theorem dX8_check_90 : decode cX8_check 90 = .ok (.iinc 4 1, 3) := by decide +kernel
theorem dX8_check_93 : decode cX8_check 93 = .ok (.goto (-88), 3) := by decide +kernel
theorem dX8_check_96 : decode cX8_check 96 = .ok (.iload_n 3, 1) := by decide +kernel
theorem dX8_check_97 : decode cX8_check 97 = .ok (.ireturn, 1) := by decide +kernel
set_option maxRecDepth 20000 in
theorem ggX8_sendUnit_X8_byteOn : GoodIn wsX8_sendUnit wsX8_byteOn := goodIn_r _ [18, 5, 12, 25, 26, 27, 28, 29, 30, 31, 32, 33, 34, 35, 36, 37, 38, 39, 40, 41, 42, 43, 44, 45, 46, 47, 48, 49, 50, 51, 52, 53, 54, 55, 56, 57, 58, 59, 60, 61, 62, 63] (by decide +kernel) (by decide +kernel)
set_option maxRecDepth 20000 in
theorem gX8_sendUnit_X8_byteOn : GoodIn wsX8_sendUnit (wsV RX8 136 RX8 yX8_byteOn wsX8_byteOn) := goodIn_app (goodIn_of _ (by decide +kernel)) ggX8_sendUnit_X8_byteOn
set_option maxRecDepth 20000 in
theorem ggX8_sendUnit_X8_check : GoodIn wsX8_sendUnit wsX8_check := goodIn_r _ [22, 5, 13, 23, 24, 25, 26, 27, 28, 29, 30, 31, 32, 33, 34, 35, 36, 37, 38, 39, 40, 41, 42, 43, 44, 45, 46, 47, 48, 49, 50, 51, 52, 53, 54, 55, 56, 57, 58, 59, 60, 61, 62, 63] (by decide +kernel) (by decide +kernel)
set_option maxRecDepth 20000 in
theorem gX8_sendUnit_X8_check : GoodIn wsX8_sendUnit (wsV RX8 140 RX8 yX8_check wsX8_check) := goodIn_app (goodIn_of _ (by decide +kernel)) ggX8_sendUnit_X8_check
theorem dX8_sendUnit_0 : decode cX8_sendUnit 0 = .ok (.aload_n 0, 1) := by decide +kernel
theorem dX8_sendUnit_1 : decode cX8_sendUnit 1 = .ok (.getfield 42, 3) := by decide +kernel
theorem dX8_sendUnit_4 : decode cX8_sendUnit 4 = .ok (.aload_n 0, 1) := by decide +kernel
theorem dX8_sendUnit_5 : decode cX8_sendUnit 5 = .ok (.getfield 91, 3) := by decide +kernel
theorem dX8_sendUnit_8 : decode cX8_sendUnit 8 = .ok (.iaload, 1) := by decide +kernel
theorem dX8_sendUnit_9 : decode cX8_sendUnit 9 = .ok (.istore_n 1, 1) := by decide +kernel
theorem dX8_sendUnit_10 : decode cX8_sendUnit 10 = .ok (.iload_n 1, 1) := by decide +kernel
theorem dX8_sendUnit_11 : decode cX8_sendUnit 11 = .ok (.iconst 1, 1) := by decide +kernel
theorem dX8_sendUnit_12 : decode cX8_sendUnit 12 = .ok (.if_icmp .ne 9, 3) := by decide +kernel
theorem dX8_sendUnit_15 : decode cX8_sendUnit 15 = .ok (.aload_n 0, 1) := by decide +kernel
theorem dX8_sendUnit_16 : decode cX8_sendUnit 16 = .ok (.iconst 4, 1) := by decide +kernel
theorem dX8_sendUnit_17 : decode cX8_sendUnit 17 = .ok (.invokevirtual 136, 3) := by decide +kernel
theorem dX8_sendUnit_20 : decode cX8_sendUnit 20 = .ok (.return_, 1) := by decide +kernel
theorem dX8_sendUnit_21 : decode cX8_sendUnit 21 = .ok (.aload_n 0, 1) := by decide +kernel
theorem dX8_sendUnit_22 : decode cX8_sendUnit 22 = .ok (.getfield 51, 3) := by decide +kernel
theorem dX8_sendUnit_25 : decode cX8_sendUnit 25 = .ok (.aload_n 0, 1) := by decide +kernel
theorem dX8_sendUnit_26 : decode cX8_sendUnit 26 = .ok (.getfield 91, 3) := by decide +kernel
theorem dX8_sendUnit_29 : decode cX8_sendUnit 29 = .ok (.iaload, 1) := by decide +kernel
theorem dX8_sendUnit_30 : decode cX8_sendUnit 30 = .ok (.istore_n 2, 1) := by decide +kernel
theorem dX8_sendUnit_31 : decode cX8_sendUnit 31 = .ok (.aload_n 0, 1) := by decide +kernel
theorem dX8_sendUnit_32 : decode cX8_sendUnit 32 = .ok (.getfield 45, 3) := by decide +kernel
theorem dX8_sendUnit_35 : decode cX8_sendUnit 35 = .ok (.aload_n 0, 1) := by decide +kernel
theorem dX8_sendUnit_36 : decode cX8_sendUnit 36 = .ok (.getfield 91, 3) := by decide +kernel
theorem dX8_sendUnit_39 : decode cX8_sendUnit 39 = .ok (.iaload, 1) := by decide +kernel
theorem dX8_sendUnit_40 : decode cX8_sendUnit 40 = .ok (.istore_n 3, 1) := by decide +kernel
theorem dX8_sendUnit_41 : decode cX8_sendUnit 41 = .ok (.aload_n 0, 1) := by decide +kernel
theorem dX8_sendUnit_42 : decode cX8_sendUnit 42 = .ok (.getfield 67, 3) := by decide +kernel
theorem dX8_sendUnit_45 : decode cX8_sendUnit 45 = .ok (.iconst 0, 1) := by decide +kernel
theorem dX8_sendUnit_46 : decode cX8_sendUnit 46 = .ok (.iload_n 2, 1) := by decide +kernel
theorem dX8_sendUnit_47 : decode cX8_sendUnit 47 = .ok (.sipush 128, 3) := by decide +kernel
theorem dX8_sendUnit_50 : decode cX8_sendUnit 50 = .ok (.if_icmp .ne 7, 3) := by decide +kernel
theorem dX8_sendUnit_53 : decode cX8_sendUnit 53 = .ok (.iconst 1, 1) := by decide +kernel
theorem dX8_sendUnit_54 : decode cX8_sendUnit 54 = .ok (.goto 4, 3) := by decide +kernel
theorem dX8_sendUnit_57 : decode cX8_sendUnit 57 = .ok (.iconst 2, 1) := by decide +kernel
theorem dX8_sendUnit_58 : decode cX8_sendUnit 58 = .ok (.i2b, 1) := by decide +kernel
theorem dX8_sendUnit_59 : decode cX8_sendUnit 59 = .ok (.bastore, 1) := by decide +kernel
theorem dX8_sendUnit_60 : decode cX8_sendUnit 60 = .ok (.aload_n 0, 1) := by decide +kernel
theorem dX8_sendUnit_61 : decode cX8_sendUnit 61 = .ok (.getfield 67, 3) := by decide +kernel
theorem dX8_sendUnit_64 : decode cX8_sendUnit 64 = .ok (.iconst 1, 1) := by decide +kernel
theorem dX8_sendUnit_65 : decode cX8_sendUnit 65 = .ok (.aload_n 0, 1) := by decide +kernel
theorem dX8_sendUnit_66 : decode cX8_sendUnit 66 = .ok (.getfield 54, 3) := by decide +kernel
theorem dX8_sendUnit_69 : decode cX8_sendUnit 69 = .ok (.aload_n 0, 1) := by decide +kernel
theorem dX8_sendUnit_70 : decode cX8_sendUnit 70 = .ok (.getfield 91, 3) := by decide +kernel
theorem dX8_sendUnit_73 : decode cX8_sendUnit 73 = .ok (.iaload, 1) := by decide +kernel
theorem dX8_sendUnit_74 : decode cX8_sendUnit 74 = .ok (.i2b, 1) := by decide +kernel
theorem dX8_sendUnit_75 : decode cX8_sendUnit 75 = .ok (.bastore, 1) := by decide +kernel
theorem dX8_sendUnit_76 : decode cX8_sendUnit 76 = .ok (.aload_n 0, 1) := by decide +kernel
theorem dX8_sendUnit_77 : decode cX8_sendUnit 77 = .ok (.getfield 67, 3) := by decide +kernel
theorem dX8_sendUnit_80 : decode cX8_sendUnit 80 = .ok (.iconst 2, 1) := by decide +kernel
theorem dX8_sendUnit_81 : decode cX8_sendUnit 81 = .ok (.sipush 255, 3) := by decide +kernel
theorem dX8_sendUnit_84 : decode cX8_sendUnit 84 = .ok (.aload_n 0, 1) := by decide +kernel
theorem dX8_sendUnit_85 : decode cX8_sendUnit 85 = .ok (.getfield 54, 3) := by decide +kernel
theorem dX8_sendUnit_88 : decode cX8_sendUnit 88 = .ok (.aload_n 0, 1) := by decide +kernel
theorem dX8_sendUnit_89 : decode cX8_sendUnit 89 = .ok (.getfield 91, 3) := by decide +kernel
theorem dX8_sendUnit_92 : decode cX8_sendUnit 92 = .ok (.iaload, 1) := by decide +kernel
theorem dX8_sendUnit_93 : decode cX8_sendUnit 93 = .ok (.isub, 1) := by decide +kernel
theorem dX8_sendUnit_94 : decode cX8_sendUnit 94 = .ok (.i2b, 1) := by decide +kernel
theorem dX8_sendUnit_95 : decode cX8_sendUnit 95 = .ok (.bastore, 1) := by decide +kernel
theorem dX8_sendUnit_96 : decode cX8_sendUnit 96 = .ok (.iconst 0, 1) := by decide +kernel
theorem dX8_sendUnit_97 : decode cX8_sendUnit 97 = .ok (.istore 4, 2) := by decide +kernel
theorem dX8_sendUnit_99 : decode cX8_sendUnit 99 = .ok (.iload 4, 2) := by decide +kernel
theorem dX8_sendUnit_101 : decode cX8_sendUnit 101 = .ok (.iload_n 2, 1) := by decide +kernel
theorem dX8_sendUnit_102 : decode cX8_sendUnit 102 = .ok (.if_icmp .ge 69, 3) := by decide +kernel
theorem dX8_sendUnit_105 : decode cX8_sendUnit 105 = .ok (.aload_n 0, 1) := by decide +kernel
theorem dX8_sendUnit_106 : decode cX8_sendUnit 106 = .ok (.getfield 48, 3) := by decide +kernel
theorem dX8_sendUnit_109 : decode cX8_sendUnit 109 = .ok (.aload_n 0, 1) := by decide +kernel
theorem dX8_sendUnit_110 : decode cX8_sendUnit 110 = .ok (.getfield 91, 3) := by decide +kernel
theorem dX8_sendUnit_113 : decode cX8_sendUnit 113 = .ok (.iaload, 1) := by decide +kernel
theorem dX8_sendUnit_114 : decode cX8_sendUnit 114 = .ok (.iload 4, 2) := by decide +kernel
theorem dX8_sendUnit_116 : decode cX8_sendUnit 116 = .ok (.iadd, 1) := by decide +kernel
theorem dX8_sendUnit_117 : decode cX8_sendUnit 117 = .ok (.istore 5, 2) := by decide +kernel
theorem dX8_sendUnit_119 : decode cX8_sendUnit 119 = .ok (.aload_n 0, 1) := by decide +kernel
theorem dX8_sendUnit_120 : decode cX8_sendUnit 120 = .ok (.getfield 67, 3) := by decide +kernel
theorem dX8_sendUnit_123 : decode cX8_sendUnit 123 = .ok (.iconst 3, 1) := by decide +kernel
theorem dX8_sendUnit_124 : decode cX8_sendUnit 124 = .ok (.iload 4, 2) := by decide +kernel
theorem dX8_sendUnit_126 : decode cX8_sendUnit 126 = .ok (.iadd, 1) := by decide +kernel
theorem dX8_sendUnit_127 : decode cX8_sendUnit 127 = .ok (.iload_n 1, 1) := by decide +kernel
theorem dX8_sendUnit_128 : decode cX8_sendUnit 128 = .ok (.ifCond .eq 7, 3) := by decide +kernel
theorem dX8_sendUnit_131 : decode cX8_sendUnit 131 = .ok (.iconst 0, 1) := by decide +kernel
theorem dX8_sendUnit_132 : decode cX8_sendUnit 132 = .ok (.goto 32, 3) := by decide +kernel
theorem dX8_sendUnit_135 : decode cX8_sendUnit 135 = .ok (.iload 5, 2) := by decide +kernel
theorem dX8_sendUnit_137 : decode cX8_sendUnit 137 = .ok (.aload_n 0, 1) := by decide +kernel
theorem dX8_sendUnit_138 : decode cX8_sendUnit 138 = .ok (.getfield 36, 3) := by decide +kernel
theorem dX8_sendUnit_141 : decode cX8_sendUnit 141 = .ok (.iload_n 3, 1) := by decide +kernel
theorem dX8_sendUnit_142 : decode cX8_sendUnit 142 = .ok (.iaload, 1) := by decide +kernel
theorem dX8_sendUnit_143 : decode cX8_sendUnit 143 = .ok (.if_icmp .ge 19, 3) := by decide +kernel
theorem dX8_sendUnit_146 : decode cX8_sendUnit 146 = .ok (.aload_n 0, 1) := by decide +kernel
theorem dX8_sendUnit_147 : decode cX8_sendUnit 147 = .ok (.getfield 33, 3) := by decide +kernel
theorem dX8_sendUnit_150 : decode cX8_sendUnit 150 = .ok (.sipush 3000, 3) := by decide +kernel
theorem dX8_sendUnit_153 : decode cX8_sendUnit 153 = .ok (.iload_n 3, 1) := by decide +kernel
theorem dX8_sendUnit_154 : decode cX8_sendUnit 154 = .ok (.imul, 1) := by decide +kernel
theorem dX8_sendUnit_155 : decode cX8_sendUnit 155 = .ok (.iload 5, 2) := by decide +kernel
theorem dX8_sendUnit_157 : decode cX8_sendUnit 157 = .ok (.iadd, 1) := by decide +kernel
theorem dX8_sendUnit_158 : decode cX8_sendUnit 158 = .ok (.baload, 1) := by decide +kernel
theorem dX8_sendUnit_159 : decode cX8_sendUnit 159 = .ok (.goto 5, 3) := by decide +kernel
theorem dX8_sendUnit_162 : decode cX8_sendUnit 162 = .ok (.bipush 26, 2) := by decide +kernel
theorem dX8_sendUnit_164 : decode cX8_sendUnit 164 = .ok (.bastore, 1) := by decide +kernel
theorem dX8_sendUnit_165 : decode cX8_sendUnit 165 = .ok (.iinc 4 1, 3) := by decide +kernel
theorem dX8_sendUnit_168 : decode cX8_sendUnit 168 = .ok (.goto (-69), 3) := by decide +kernel
theorem dX8_sendUnit_171 : decode cX8_sendUnit 171 = .ok (.iload_n 1, 1) := by decide +kernel
theorem dX8_sendUnit_172 : decode cX8_sendUnit 172 = .ok (.iconst 2, 1) := by decide +kernel
theorem dX8_sendUnit_173 : decode cX8_sendUnit 173 = .ok (.if_icmp .ne 135, 3) := by decide +kernel
theorem dX8_sendUnit_176 : decode cX8_sendUnit 176 = .ok (.iconst 0, 1) := by decide +kernel
theorem dX8_sendUnit_177 : decode cX8_sendUnit 177 = .ok (.istore 4, 2) := by decide +kernel
theorem dX8_sendUnit_179 : decode cX8_sendUnit 179 = .ok (.iload 4, 2) := by decide +kernel
theorem dX8_sendUnit_181 : decode cX8_sendUnit 181 = .ok (.aload_n 0, 1) := by decide +kernel
theorem dX8_sendUnit_182 : decode cX8_sendUnit 182 = .ok (.getfield 30, 3) := by decide +kernel
theorem dX8_sendUnit_185 : decode cX8_sendUnit 185 = .ok (.iload_n 3, 1) := by decide +kernel
theorem dX8_sendUnit_186 : decode cX8_sendUnit 186 = .ok (.iaload, 1) := by decide +kernel
theorem dX8_sendUnit_187 : decode cX8_sendUnit 187 = .ok (.if_icmp .ge 30, 3) := by decide +kernel
theorem dX8_sendUnit_190 : decode cX8_sendUnit 190 = .ok (.aload_n 0, 1) := by decide +kernel
theorem dX8_sendUnit_191 : decode cX8_sendUnit 191 = .ok (.getfield 67, 3) := by decide +kernel
theorem dX8_sendUnit_194 : decode cX8_sendUnit 194 = .ok (.iconst 3, 1) := by decide +kernel
theorem dX8_sendUnit_195 : decode cX8_sendUnit 195 = .ok (.iload 4, 2) := by decide +kernel
theorem dX8_sendUnit_197 : decode cX8_sendUnit 197 = .ok (.iadd, 1) := by decide +kernel
theorem dX8_sendUnit_198 : decode cX8_sendUnit 198 = .ok (.aload_n 0, 1) := by decide +kernel
theorem dX8_sendUnit_199 : decode cX8_sendUnit 199 = .ok (.getfield 27, 3) := by decide +kernel
theorem dX8_sendUnit_202 : decode cX8_sendUnit 202 = .ok (.bipush 12, 2) := by decide +kernel
theorem dX8_sendUnit_204 : decode cX8_sendUnit 204 = .ok (.iload_n 3, 1) := by decide +kernel
theorem dX8_sendUnit_205 : decode cX8_sendUnit 205 = .ok (.imul, 1) := by decide +kernel
theorem dX8_sendUnit_206 : decode cX8_sendUnit 206 = .ok (.iload 4, 2) := by decide +kernel
theorem dX8_sendUnit_208 : decode cX8_sendUnit 208 = .ok (.iadd, 1) := by decide +kernel
theorem dX8_sendUnit_209 : decode cX8_sendUnit 209 = .ok (.baload, 1) := by decide +kernel
theorem dX8_sendUnit_210 : decode cX8_sendUnit 210 = .ok (.bastore, 1) := by decide +kernel
theorem dX8_sendUnit_211 : decode cX8_sendUnit 211 = .ok (.iinc 4 1, 3) := by decide +kernel
theorem dX8_sendUnit_214 : decode cX8_sendUnit 214 = .ok (.goto (-35), 3) := by decide +kernel
theorem dX8_sendUnit_217 : decode cX8_sendUnit 217 = .ok (.iconst 4, 1) := by decide +kernel
theorem dX8_sendUnit_218 : decode cX8_sendUnit 218 = .ok (.aload_n 0, 1) := by decide +kernel
theorem dX8_sendUnit_219 : decode cX8_sendUnit 219 = .ok (.getfield 30, 3) := by decide +kernel
theorem dX8_sendUnit_222 : decode cX8_sendUnit 222 = .ok (.iload_n 3, 1) := by decide +kernel
theorem dX8_sendUnit_223 : decode cX8_sendUnit 223 = .ok (.iaload, 1) := by decide +kernel
theorem dX8_sendUnit_224 : decode cX8_sendUnit 224 = .ok (.iadd, 1) := by decide +kernel
theorem dX8_sendUnit_225 : decode cX8_sendUnit 225 = .ok (.istore 4, 2) := by decide +kernel
theorem dX8_sendUnit_227 : decode cX8_sendUnit 227 = .ok (.sipush 1000, 3) := by decide +kernel
theorem dX8_sendUnit_230 : decode cX8_sendUnit 230 = .ok (.istore 5, 2) := by decide +kernel
theorem dX8_sendUnit_232 : decode cX8_sendUnit 232 = .ok (.iconst 0, 1) := by decide +kernel
theorem dX8_sendUnit_233 : decode cX8_sendUnit 233 = .ok (.istore 6, 2) := by decide +kernel
theorem dX8_sendUnit_235 : decode cX8_sendUnit 235 = .ok (.iload 5, 2) := by decide +kernel
theorem dX8_sendUnit_237 : decode cX8_sendUnit 237 = .ok (.ifCond .le 71, 3) := by decide +kernel
theorem dX8_sendUnit_240 : decode cX8_sendUnit 240 = .ok (.aload_n 0, 1) := by decide +kernel
theorem dX8_sendUnit_241 : decode cX8_sendUnit 241 = .ok (.getfield 36, 3) := by decide +kernel
theorem dX8_sendUnit_244 : decode cX8_sendUnit 244 = .ok (.iload_n 3, 1) := by decide +kernel
theorem dX8_sendUnit_245 : decode cX8_sendUnit 245 = .ok (.iaload, 1) := by decide +kernel
theorem dX8_sendUnit_246 : decode cX8_sendUnit 246 = .ok (.iload 5, 2) := by decide +kernel
theorem dX8_sendUnit_248 : decode cX8_sendUnit 248 = .ok (.idiv, 1) := by decide +kernel
theorem dX8_sendUnit_249 : decode cX8_sendUnit 249 = .ok (.bipush 10, 2) := by decide +kernel
theorem dX8_sendUnit_251 : decode cX8_sendUnit 251 = .ok (.irem, 1) := by decide +kernel
theorem dX8_sendUnit_252 : decode cX8_sendUnit 252 = .ok (.istore 7, 2) := by decide +kernel
theorem dX8_sendUnit_254 : decode cX8_sendUnit 254 = .ok (.iload 6, 2) := by decide +kernel
theorem dX8_sendUnit_256 : decode cX8_sendUnit 256 = .ok (.ifCond .ne 14, 3) := by decide +kernel
theorem dX8_sendUnit_259 : decode cX8_sendUnit 259 = .ok (.iload 7, 2) := by decide +kernel
theorem dX8_sendUnit_261 : decode cX8_sendUnit 261 = .ok (.ifCond .gt 9, 3) := by decide +kernel
theorem dX8_sendUnit_264 : decode cX8_sendUnit 264 = .ok (.iload 5, 2) := by decide +kernel
theorem dX8_sendUnit_266 : decode cX8_sendUnit 266 = .ok (.iconst 1, 1) := by decide +kernel
theorem dX8_sendUnit_267 : decode cX8_sendUnit 267 = .ok (.if_icmp .ne 7, 3) := by decide +kernel
theorem dX8_sendUnit_270 : decode cX8_sendUnit 270 = .ok (.iconst 1, 1) := by decide +kernel
theorem dX8_sendUnit_271 : decode cX8_sendUnit 271 = .ok (.goto 4, 3) := by decide +kernel
theorem dX8_sendUnit_274 : decode cX8_sendUnit 274 = .ok (.iconst 0, 1) := by decide +kernel
theorem dX8_sendUnit_275 : decode cX8_sendUnit 275 = .ok (.istore 6, 2) := by decide +kernel
theorem dX8_sendUnit_277 : decode cX8_sendUnit 277 = .ok (.iload 6, 2) := by decide +kernel
theorem dX8_sendUnit_279 : decode cX8_sendUnit 279 = .ok (.ifCond .eq 19, 3) := by decide +kernel
theorem dX8_sendUnit_282 : decode cX8_sendUnit 282 = .ok (.aload_n 0, 1) := by decide +kernel
theorem dX8_sendUnit_283 : decode cX8_sendUnit 283 = .ok (.getfield 67, 3) := by decide +kernel
theorem dX8_sendUnit_286 : decode cX8_sendUnit 286 = .ok (.iload 4, 2) := by decide +kernel
theorem dX8_sendUnit_288 : decode cX8_sendUnit 288 = .ok (.bipush 48, 2) := by decide +kernel
theorem dX8_sendUnit_290 : decode cX8_sendUnit 290 = .ok (.iload 7, 2) := by decide +kernel
theorem dX8_sendUnit_292 : decode cX8_sendUnit 292 = .ok (.iadd, 1) := by decide +kernel
theorem dX8_sendUnit_293 : decode cX8_sendUnit 293 = .ok (.i2b, 1) := by decide +kernel
theorem dX8_sendUnit_294 : decode cX8_sendUnit 294 = .ok (.bastore, 1) := by decide +kernel
theorem dX8_sendUnit_295 : decode cX8_sendUnit 295 = .ok (.iinc 4 1, 3) := by decide +kernel
theorem dX8_sendUnit_298 : decode cX8_sendUnit 298 = .ok (.iload 5, 2) := by decide +kernel
theorem dX8_sendUnit_300 : decode cX8_sendUnit 300 = .ok (.bipush 10, 2) := by decide +kernel
theorem dX8_sendUnit_302 : decode cX8_sendUnit 302 = .ok (.idiv, 1) := by decide +kernel
theorem dX8_sendUnit_303 : decode cX8_sendUnit 303 = .ok (.istore 5, 2) := by decide +kernel
theorem dX8_sendUnit_305 : decode cX8_sendUnit 305 = .ok (.goto (-70), 3) := by decide +kernel
theorem dX8_sendUnit_308 : decode cX8_sendUnit 308 = .ok (.aload_n 0, 1) := by decide +kernel
theorem dX8_sendUnit_309 : decode cX8_sendUnit 309 = .ok (.iconst 3, 1) := by decide +kernel
theorem dX8_sendUnit_310 : decode cX8_sendUnit 310 = .ok (.iload_n 2, 1) := by decide +kernel
theorem dX8_sendUnit_311 : decode cX8_sendUnit 311 = .ok (.invokevirtual 140, 3) := by decide +kernel
theorem dX8_sendUnit_314 : decode cX8_sendUnit 314 = .ok (.istore 4, 2) := by decide +kernel
theorem dX8_sendUnit_316 : decode cX8_sendUnit 316 = .ok (.aload_n 0, 1) := by decide +kernel
theorem dX8_sendUnit_317 : decode cX8_sendUnit 317 = .ok (.iconst 3, 1) := by decide +kernel
theorem dX8_sendUnit_318 : decode cX8_sendUnit 318 = .ok (.iload_n 2, 1) := by decide +kernel
theorem dX8_sendUnit_319 : decode cX8_sendUnit 319 = .ok (.iadd, 1) := by decide +kernel
theorem dX8_sendUnit_320 : decode cX8_sendUnit 320 = .ok (.putfield 70, 3) := by decide +kernel
theorem dX8_sendUnit_323 : decode cX8_sendUnit 323 = .ok (.aload_n 0, 1) := by decide +kernel
theorem dX8_sendUnit_324 : decode cX8_sendUnit 324 = .ok (.getfield 64, 3) := by decide +kernel
theorem dX8_sendUnit_327 : decode cX8_sendUnit 327 = .ok (.ifCond .le 28, 3) := by decide +kernel
theorem dX8_sendUnit_330 : decode cX8_sendUnit 330 = .ok (.aload_n 0, 1) := by decide +kernel
theorem dX8_sendUnit_331 : decode cX8_sendUnit 331 = .ok (.getfield 67, 3) := by decide +kernel
theorem dX8_sendUnit_334 : decode cX8_sendUnit 334 = .ok (.aload_n 0, 1) := by decide +kernel
theorem dX8_sendUnit_335 : decode cX8_sendUnit 335 = .ok (.getfield 70, 3) := by decide +kernel
theorem dX8_sendUnit_338 : decode cX8_sendUnit 338 = .ok (.iload 4, 2) := by decide +kernel
theorem dX8_sendUnit_340 : decode cX8_sendUnit 340 = .ok (.bipush 8, 2) := by decide +kernel
theorem dX8_sendUnit_342 : decode cX8_sendUnit 342 = .ok (.ishr, 1) := by decide +kernel
theorem dX8_sendUnit_343 : decode cX8_sendUnit 343 = .ok (.i2b, 1) := by decide +kernel
theorem dX8_sendUnit_344 : decode cX8_sendUnit 344 = .ok (.bastore, 1) := by decide +kernel
theorem dX8_sendUnit_345 : decode cX8_sendUnit 345 = .ok (.aload_n 0, 1) := by decide +kernel
theorem dX8_sendUnit_346 : decode cX8_sendUnit 346 = .ok (.dup, 1) := by decide +kernel
theorem dX8_sendUnit_347 : decode cX8_sendUnit 347 = .ok (.getfield 70, 3) := by decide +kernel
theorem dX8_sendUnit_350 : decode cX8_sendUnit 350 = .ok (.iconst 1, 1) := by decide +kernel
theorem dX8_sendUnit_351 : decode cX8_sendUnit 351 = .ok (.iadd, 1) := by decide +kernel
theorem dX8_sendUnit_352 : decode cX8_sendUnit 352 = .ok (.putfield 70, 3) := by decide +kernel
theorem dX8_sendUnit_355 : decode cX8_sendUnit 355 = .ok (.aload_n 0, 1) := by decide +kernel
theorem dX8_sendUnit_356 : decode cX8_sendUnit 356 = .ok (.getfield 67, 3) := by decide +kernel
theorem dX8_sendUnit_359 : decode cX8_sendUnit 359 = .ok (.aload_n 0, 1) := by decide +kernel
theorem dX8_sendUnit_360 : decode cX8_sendUnit 360 = .ok (.getfield 70, 3) := by decide +kernel
theorem dX8_sendUnit_363 : decode cX8_sendUnit 363 = .ok (.iload 4, 2) := by decide +kernel
theorem dX8_sendUnit_365 : decode cX8_sendUnit 365 = .ok (.i2b, 1) := by decide +kernel
theorem dX8_sendUnit_366 : decode cX8_sendUnit 366 = .ok (.bastore, 1) := by decide +kernel
theorem dX8_sendUnit_367 : decode cX8_sendUnit 367 = .ok (.aload_n 0, 1) := by decide +kernel
theorem dX8_sendUnit_368 : decode cX8_sendUnit 368 = .ok (.dup, 1) := by decide +kernel
theorem dX8_sendUnit_369 : decode cX8_sendUnit 369 = .ok (.getfield 70, 3) := by decide +kernel
theorem dX8_sendUnit_372 : decode cX8_sendUnit 372 = .ok (.iconst 1, 1) := by decide +kernel
theorem dX8_sendUnit_373 : decode cX8_sendUnit 373 = .ok (.iadd, 1) := by decide +kernel
theorem dX8_sendUnit_374 : decode cX8_sendUnit 374 = .ok (.putfield 70, 3) := by decide +kernel
theorem dX8_sendUnit_377 : decode cX8_sendUnit 377 = .ok (.return_, 1) := by decide +kernel
theorem dX8_ask_0 : decode cX8_ask 0 = .ok (.aload_n 0, 1) := by decide +kernel
theorem dX8_ask_1 : decode cX8_ask 1 = .ok (.getfield 64, 3) := by decide +kernel
theorem dX8_ask_4 : decode cX8_ask 4 = .ok (.ifCond .ne 8, 3) := by decide +kernel
theorem dX8_ask_7 : decode cX8_ask 7 = .ok (.bipush 21, 2) := by decide +kernel
theorem dX8_ask_9 : decode cX8_ask 9 = .ok (.goto 5, 3) := by decide +kernel
theorem dX8_ask_12 : decode cX8_ask 12 = .ok (.bipush 67, 2) := by decide +kernel
theorem dX8_ask_14 : decode cX8_ask 14 = .ok (.ireturn, 1) := by decide +kernel
set_option maxRecDepth 20000 in
theorem ggX8_begin_X8_layOut : GoodIn wsX8_begin wsX8_layOut := goodIn_r _ [24, 25, 3, 2, 26, 27, 28, 29, 23, 30, 31, 32, 33, 34, 35, 46, 47, 48, 49, 50, 51, 52, 53, 54, 55, 56, 57, 58, 59, 60, 61, 62, 63, 64, 65, 66, 67, 68, 69, 70, 71, 72, 73, 74, 75, 76, 77, 78, 79, 80, 81, 82, 83, 84] (by decide +kernel) (by decide +kernel)
set_option maxRecDepth 20000 in
theorem gX8_begin_X8_layOut : GoodIn wsX8_begin (wsV RX8 144 RX8 yX8_layOut wsX8_layOut) := goodIn_app (goodIn_of _ (by decide +kernel)) ggX8_begin_X8_layOut
set_option maxRecDepth 20000 in
theorem ggX8_begin_X8_ask : GoodIn wsX8_begin wsX8_ask := goodIn_r _ [39, 3, 46, 47, 48, 49, 50, 51, 52, 53, 54, 55, 56, 57, 58, 59, 60, 61, 62, 63, 64, 65, 66, 67, 68, 69, 70, 71, 72, 73, 74, 75, 76, 77, 78, 79, 80, 81, 82, 83, 84] (by decide +kernel) (by decide +kernel)
set_option maxRecDepth 20000 in
theorem gX8_begin_X8_ask : GoodIn wsX8_begin (wsV RX8 147 RX8 yX8_ask wsX8_ask) := goodIn_app (goodIn_of _ (by decide +kernel)) ggX8_begin_X8_ask
set_option maxRecDepth 20000 in
theorem ggX8_begin_X8_byteOn : GoodIn wsX8_begin wsX8_byteOn := goodIn_r _ [43, 44, 45, 46, 47, 48, 49, 50, 51, 52, 53, 54, 55, 56, 57, 58, 59, 60, 61, 62, 63, 64, 65, 66, 67, 68, 69, 70, 71, 72, 73, 74, 75, 76, 77, 78, 79, 80, 81, 82, 83, 84] (by decide +kernel) (by decide +kernel)
set_option maxRecDepth 20000 in
theorem gX8_begin_X8_byteOn : GoodIn wsX8_begin (wsV RX8 136 RX8 yX8_byteOn wsX8_byteOn) := goodIn_app (goodIn_of _ (by decide +kernel)) ggX8_begin_X8_byteOn
theorem dX8_begin_0 : decode cX8_begin 0 = .ok (.aload_n 0, 1) := by decide +kernel
theorem dX8_begin_1 : decode cX8_begin 1 = .ok (.iconst 0, 1) := by decide +kernel
theorem dX8_begin_2 : decode cX8_begin 2 = .ok (.putfield 7, 3) := by decide +kernel
theorem dX8_begin_5 : decode cX8_begin 5 = .ok (.aload_n 0, 1) := by decide +kernel
theorem dX8_begin_6 : decode cX8_begin 6 = .ok (.getfield 24, 3) := by decide +kernel
theorem dX8_begin_9 : decode cX8_begin 9 = .ok (.ifCond .eq 12, 3) := by decide +kernel
theorem dX8_begin_12 : decode cX8_begin 12 = .ok (.iload_n 1, 1) := by decide +kernel
theorem dX8_begin_13 : decode cX8_begin 13 = .ok (.ifCond .lt 8, 3) := by decide +kernel
theorem dX8_begin_16 : decode cX8_begin 16 = .ok (.iload_n 1, 1) := by decide +kernel
theorem dX8_begin_17 : decode cX8_begin 17 = .ok (.iconst 3, 1) := by decide +kernel
theorem dX8_begin_18 : decode cX8_begin 18 = .ok (.if_icmp .le 5, 3) := by decide +kernel
theorem dX8_begin_21 : decode cX8_begin 21 = .ok (.iconst 0, 1) := by decide +kernel
theorem dX8_begin_22 : decode cX8_begin 22 = .ok (.ireturn, 1) := by decide +kernel
theorem dX8_begin_23 : decode cX8_begin 23 = .ok (.aload_n 0, 1) := by decide +kernel
theorem dX8_begin_24 : decode cX8_begin 24 = .ok (.iload_n 1, 1) := by decide +kernel
theorem dX8_begin_25 : decode cX8_begin 25 = .ok (.putfield 64, 3) := by decide +kernel
theorem dX8_begin_28 : decode cX8_begin 28 = .ok (.aload_n 0, 1) := by decide +kernel
theorem dX8_begin_29 : decode cX8_begin 29 = .ok (.iconst 1, 1) := by decide +kernel
theorem dX8_begin_30 : decode cX8_begin 30 = .ok (.putfield 57, 3) := by decide +kernel
theorem dX8_begin_33 : decode cX8_begin 33 = .ok (.aload_n 0, 1) := by decide +kernel
theorem dX8_begin_34 : decode cX8_begin 34 = .ok (.iconst 1, 1) := by decide +kernel
theorem dX8_begin_35 : decode cX8_begin 35 = .ok (.putfield 61, 3) := by decide +kernel
theorem dX8_begin_38 : decode cX8_begin 38 = .ok (.aload_n 0, 1) := by decide +kernel
theorem dX8_begin_39 : decode cX8_begin 39 = .ok (.invokevirtual 144, 3) := by decide +kernel
theorem dX8_begin_42 : decode cX8_begin 42 = .ok (.aload_n 0, 1) := by decide +kernel
theorem dX8_begin_43 : decode cX8_begin 43 = .ok (.iconst 0, 1) := by decide +kernel
theorem dX8_begin_44 : decode cX8_begin 44 = .ok (.putfield 85, 3) := by decide +kernel
theorem dX8_begin_47 : decode cX8_begin 47 = .ok (.aload_n 0, 1) := by decide +kernel
theorem dX8_begin_48 : decode cX8_begin 48 = .ok (.iconst 0, 1) := by decide +kernel
theorem dX8_begin_49 : decode cX8_begin 49 = .ok (.putfield 88, 3) := by decide +kernel
theorem dX8_begin_52 : decode cX8_begin 52 = .ok (.aload_n 0, 1) := by decide +kernel
theorem dX8_begin_53 : decode cX8_begin 53 = .ok (.iconst (-1), 1) := by decide +kernel
theorem dX8_begin_54 : decode cX8_begin 54 = .ok (.putfield 91, 3) := by decide +kernel
theorem dX8_begin_57 : decode cX8_begin 57 = .ok (.aload_n 0, 1) := by decide +kernel
theorem dX8_begin_58 : decode cX8_begin 58 = .ok (.iconst 0, 1) := by decide +kernel
theorem dX8_begin_59 : decode cX8_begin 59 = .ok (.putfield 94, 3) := by decide +kernel
theorem dX8_begin_62 : decode cX8_begin 62 = .ok (.aload_n 0, 1) := by decide +kernel
theorem dX8_begin_63 : decode cX8_begin 63 = .ok (.iconst 0, 1) := by decide +kernel
theorem dX8_begin_64 : decode cX8_begin 64 = .ok (.putfield 97, 3) := by decide +kernel
theorem dX8_begin_67 : decode cX8_begin 67 = .ok (.aload_n 0, 1) := by decide +kernel
theorem dX8_begin_68 : decode cX8_begin 68 = .ok (.aload_n 0, 1) := by decide +kernel
theorem dX8_begin_69 : decode cX8_begin 69 = .ok (.getfield 64, 3) := by decide +kernel
theorem dX8_begin_72 : decode cX8_begin 72 = .ok (.iconst 3, 1) := by decide +kernel
theorem dX8_begin_73 : decode cX8_begin 73 = .ok (.if_icmp .ne 7, 3) := by decide +kernel
theorem dX8_begin_76 : decode cX8_begin 76 = .ok (.iconst 1, 1) := by decide +kernel
theorem dX8_begin_77 : decode cX8_begin 77 = .ok (.goto 4, 3) := by decide +kernel
theorem dX8_begin_80 : decode cX8_begin 80 = .ok (.iconst 0, 1) := by decide +kernel
theorem dX8_begin_81 : decode cX8_begin 81 = .ok (.putfield 103, 3) := by decide +kernel
theorem dX8_begin_84 : decode cX8_begin 84 = .ok (.aload_n 0, 1) := by decide +kernel
theorem dX8_begin_85 : decode cX8_begin 85 = .ok (.aload_n 0, 1) := by decide +kernel
theorem dX8_begin_86 : decode cX8_begin 86 = .ok (.getfield 64, 3) := by decide +kernel
theorem dX8_begin_89 : decode cX8_begin 89 = .ok (.iconst 3, 1) := by decide +kernel
theorem dX8_begin_90 : decode cX8_begin 90 = .ok (.if_icmp .ne 7, 3) := by decide +kernel
theorem dX8_begin_93 : decode cX8_begin 93 = .ok (.iconst 0, 1) := by decide +kernel
theorem dX8_begin_94 : decode cX8_begin 94 = .ok (.goto 4, 3) := by decide +kernel
theorem dX8_begin_97 : decode cX8_begin 97 = .ok (.iconst 1, 1) := by decide +kernel
theorem dX8_begin_98 : decode cX8_begin 98 = .ok (.putfield 100, 3) := by decide +kernel
theorem dX8_begin_101 : decode cX8_begin 101 = .ok (.aload_n 0, 1) := by decide +kernel
theorem dX8_begin_102 : decode cX8_begin 102 = .ok (.iconst 0, 1) := by decide +kernel
theorem dX8_begin_103 : decode cX8_begin 103 = .ok (.putfield 106, 3) := by decide +kernel
theorem dX8_begin_106 : decode cX8_begin 106 = .ok (.aload_n 0, 1) := by decide +kernel
theorem dX8_begin_107 : decode cX8_begin 107 = .ok (.iconst 0, 1) := by decide +kernel
theorem dX8_begin_108 : decode cX8_begin 108 = .ok (.putfield 109, 3) := by decide +kernel
theorem dX8_begin_111 : decode cX8_begin 111 = .ok (.aload_n 0, 1) := by decide +kernel
theorem dX8_begin_112 : decode cX8_begin 112 = .ok (.aload_n 0, 1) := by decide +kernel
theorem dX8_begin_113 : decode cX8_begin 113 = .ok (.getfield 64, 3) := by decide +kernel
theorem dX8_begin_116 : decode cX8_begin 116 = .ok (.iconst 3, 1) := by decide +kernel
theorem dX8_begin_117 : decode cX8_begin 117 = .ok (.if_icmp .ne 7, 3) := by decide +kernel
theorem dX8_begin_120 : decode cX8_begin 120 = .ok (.iconst 0, 1) := by decide +kernel
theorem dX8_begin_121 : decode cX8_begin 121 = .ok (.goto 4, 3) := by decide +kernel
theorem dX8_begin_124 : decode cX8_begin 124 = .ok (.iconst 1, 1) := by decide +kernel
theorem dX8_begin_125 : decode cX8_begin 125 = .ok (.putfield 112, 3) := by decide +kernel
theorem dX8_begin_128 : decode cX8_begin 128 = .ok (.aload_n 0, 1) := by decide +kernel
theorem dX8_begin_129 : decode cX8_begin 129 = .ok (.getfield 118, 3) := by decide +kernel
theorem dX8_begin_132 : decode cX8_begin 132 = .ok (.iconst 0, 1) := by decide +kernel
theorem dX8_begin_133 : decode cX8_begin 133 = .ok (.iconst 0, 1) := by decide +kernel
theorem dX8_begin_134 : decode cX8_begin 134 = .ok (.iastore, 1) := by decide +kernel
theorem dX8_begin_135 : decode cX8_begin 135 = .ok (.aload_n 0, 1) := by decide +kernel
theorem dX8_begin_136 : decode cX8_begin 136 = .ok (.getfield 124, 3) := by decide +kernel
theorem dX8_begin_139 : decode cX8_begin 139 = .ok (.iconst 0, 1) := by decide +kernel
theorem dX8_begin_140 : decode cX8_begin 140 = .ok (.iconst 0, 1) := by decide +kernel
theorem dX8_begin_141 : decode cX8_begin 141 = .ok (.iastore, 1) := by decide +kernel
theorem dX8_begin_142 : decode cX8_begin 142 = .ok (.aload_n 0, 1) := by decide +kernel
theorem dX8_begin_143 : decode cX8_begin 143 = .ok (.iconst 0, 1) := by decide +kernel
theorem dX8_begin_144 : decode cX8_begin 144 = .ok (.putfield 127, 3) := by decide +kernel
theorem dX8_begin_147 : decode cX8_begin 147 = .ok (.aload_n 0, 1) := by decide +kernel
theorem dX8_begin_148 : decode cX8_begin 148 = .ok (.aload_n 0, 1) := by decide +kernel
theorem dX8_begin_149 : decode cX8_begin 149 = .ok (.invokevirtual 147, 3) := by decide +kernel
theorem dX8_begin_152 : decode cX8_begin 152 = .ok (.invokevirtual 136, 3) := by decide +kernel
theorem dX8_begin_155 : decode cX8_begin 155 = .ok (.aload_n 0, 1) := by decide +kernel
theorem dX8_begin_156 : decode cX8_begin 156 = .ok (.iconst 1, 1) := by decide +kernel
theorem dX8_begin_157 : decode cX8_begin 157 = .ok (.putfield 73, 3) := by decide +kernel
theorem dX8_begin_160 : decode cX8_begin 160 = .ok (.iconst 1, 1) := by decide +kernel
theorem dX8_begin_161 : decode cX8_begin 161 = .ok (.ireturn, 1) := by decide +kernel
theorem dX8_spoil_0 : decode cX8_spoil 0 = .ok (.aload_n 0, 1) := by decide +kernel
theorem dX8_spoil_1 : decode cX8_spoil 1 = .ok (.iconst 0, 1) := by decide +kernel
theorem dX8_spoil_2 : decode cX8_spoil 2 = .ok (.putfield 7, 3) := by decide +kernel
theorem dX8_spoil_5 : decode cX8_spoil 5 = .ok (.aload_n 0, 1) := by decide +kernel
theorem dX8_spoil_6 : decode cX8_spoil 6 = .ok (.iconst 1, 1) := by decide +kernel
theorem dX8_spoil_7 : decode cX8_spoil 7 = .ok (.putfield 76, 3) := by decide +kernel
theorem dX8_spoil_10 : decode cX8_spoil 10 = .ok (.aload_n 0, 1) := by decide +kernel
theorem dX8_spoil_11 : decode cX8_spoil 11 = .ok (.iload_n 1, 1) := by decide +kernel
theorem dX8_spoil_12 : decode cX8_spoil 12 = .ok (.putfield 79, 3) := by decide +kernel
theorem dX8_spoil_15 : decode cX8_spoil 15 = .ok (.aload_n 0, 1) := by decide +kernel
theorem dX8_spoil_16 : decode cX8_spoil 16 = .ok (.iload_n 2, 1) := by decide +kernel
theorem dX8_spoil_17 : decode cX8_spoil 17 = .ok (.sipush 255, 3) := by decide +kernel
theorem dX8_spoil_20 : decode cX8_spoil 20 = .ok (.iand, 1) := by decide +kernel
theorem dX8_spoil_21 : decode cX8_spoil 21 = .ok (.putfield 82, 3) := by decide +kernel
theorem dX8_spoil_24 : decode cX8_spoil 24 = .ok (.return_, 1) := by decide +kernel
set_option maxRecDepth 20000 in
theorem ggX8_senderMiss_X8_byteOn : GoodIn wsX8_senderMiss wsX8_byteOn := goodIn_r _ [7, 8, 9, 31, 32, 33, 34, 35, 36, 37, 38, 39, 40, 41, 42, 43, 44, 45, 46, 47, 48, 49, 50, 51, 52, 53, 54, 55, 56, 57, 58, 59, 60, 61, 62, 63, 64, 65, 66, 67, 68, 69] (by decide +kernel) (by decide +kernel)
set_option maxRecDepth 20000 in
theorem gX8_senderMiss_X8_byteOn : GoodIn wsX8_senderMiss (wsV RX8 136 RX8 yX8_byteOn wsX8_byteOn) := goodIn_app (goodIn_of _ (by decide +kernel)) ggX8_senderMiss_X8_byteOn
set_option maxRecDepth 20000 in
theorem ggX8_senderMiss_X8_sendUnit : GoodIn wsX8_senderMiss wsX8_sendUnit := goodIn_r _ [13, 14, 15, 16, 17, 8, 18, 19, 20, 21, 22, 23, 9, 24, 3, 4, 5, 6, 7, 25, 26, 27, 28, 29, 30, 31, 32, 33, 34, 35, 36, 37, 38, 39, 40, 41, 42, 43, 44, 45, 46, 47, 48, 49, 50, 51, 52, 53, 54, 55, 56, 57, 58, 59, 60, 61, 62, 63, 64, 65, 66, 67, 68, 69] (by decide +kernel) (by decide +kernel)
set_option maxRecDepth 20000 in
theorem gX8_senderMiss_X8_sendUnit : GoodIn wsX8_senderMiss (wsV RX8 151 RX8 yX8_sendUnit wsX8_sendUnit) := goodIn_app (goodIn_of _ (by decide +kernel)) ggX8_senderMiss_X8_sendUnit
theorem dX8_senderMiss_0 : decode cX8_senderMiss 0 = .ok (.aload_n 0, 1) := by decide +kernel
theorem dX8_senderMiss_1 : decode cX8_senderMiss 1 = .ok (.dup, 1) := by decide +kernel
theorem dX8_senderMiss_2 : decode cX8_senderMiss 2 = .ok (.getfield 88, 3) := by decide +kernel
theorem dX8_senderMiss_5 : decode cX8_senderMiss 5 = .ok (.iconst 1, 1) := by decide +kernel
theorem dX8_senderMiss_6 : decode cX8_senderMiss 6 = .ok (.iadd, 1) := by decide +kernel
theorem dX8_senderMiss_7 : decode cX8_senderMiss 7 = .ok (.putfield 88, 3) := by decide +kernel
theorem dX8_senderMiss_10 : decode cX8_senderMiss 10 = .ok (.aload_n 0, 1) := by decide +kernel
theorem dX8_senderMiss_11 : decode cX8_senderMiss 11 = .ok (.getfield 88, 3) := by decide +kernel
theorem dX8_senderMiss_14 : decode cX8_senderMiss 14 = .ok (.bipush 11, 2) := by decide +kernel
theorem dX8_senderMiss_16 : decode cX8_senderMiss 16 = .ok (.if_icmp .ne 17, 3) := by decide +kernel
theorem dX8_senderMiss_19 : decode cX8_senderMiss 19 = .ok (.aload_n 0, 1) := by decide +kernel
theorem dX8_senderMiss_20 : decode cX8_senderMiss 20 = .ok (.bipush 24, 2) := by decide +kernel
theorem dX8_senderMiss_22 : decode cX8_senderMiss 22 = .ok (.invokevirtual 136, 3) := by decide +kernel
theorem dX8_senderMiss_25 : decode cX8_senderMiss 25 = .ok (.aload_n 0, 1) := by decide +kernel
theorem dX8_senderMiss_26 : decode cX8_senderMiss 26 = .ok (.iconst 2, 1) := by decide +kernel
theorem dX8_senderMiss_27 : decode cX8_senderMiss 27 = .ok (.putfield 85, 3) := by decide +kernel
theorem dX8_senderMiss_30 : decode cX8_senderMiss 30 = .ok (.goto 19, 3) := by decide +kernel
theorem dX8_senderMiss_33 : decode cX8_senderMiss 33 = .ok (.iload_n 1, 1) := by decide +kernel
theorem dX8_senderMiss_34 : decode cX8_senderMiss 34 = .ok (.ifCond .eq 11, 3) := by decide +kernel
theorem dX8_senderMiss_37 : decode cX8_senderMiss 37 = .ok (.aload_n 0, 1) := by decide +kernel
theorem dX8_senderMiss_38 : decode cX8_senderMiss 38 = .ok (.iconst 0, 1) := by decide +kernel
theorem dX8_senderMiss_39 : decode cX8_senderMiss 39 = .ok (.invokevirtual 136, 3) := by decide +kernel
theorem dX8_senderMiss_42 : decode cX8_senderMiss 42 = .ok (.goto 7, 3) := by decide +kernel
theorem dX8_senderMiss_45 : decode cX8_senderMiss 45 = .ok (.aload_n 0, 1) := by decide +kernel
theorem dX8_senderMiss_46 : decode cX8_senderMiss 46 = .ok (.invokevirtual 151, 3) := by decide +kernel
theorem dX8_senderMiss_49 : decode cX8_senderMiss 49 = .ok (.return_, 1) := by decide +kernel
set_option maxRecDepth 20000 in
theorem ggX8_senderGets_X8_ask : GoodIn wsX8_senderGets wsX8_ask := goodIn_r _ [11, 12, 40, 41, 42, 43, 44, 45, 46, 47, 48, 49, 50, 51, 52, 53, 54, 55, 56, 57, 58, 59, 60, 61, 62, 63, 64, 65, 66, 67, 68, 69, 70, 71, 72, 73, 74, 75, 76, 77, 78] (by decide +kernel) (by decide +kernel)
set_option maxRecDepth 20000 in
theorem gX8_senderGets_X8_ask : GoodIn wsX8_senderGets (wsV RX8 147 RX8 yX8_ask wsX8_ask) := goodIn_app (goodIn_of _ (by decide +kernel)) ggX8_senderGets_X8_ask
set_option maxRecDepth 20000 in
theorem ggX8_senderGets_X8_senderMiss : GoodIn wsX8_senderGets wsX8_senderMiss := goodIn_r _ [16, 5, 3, 17, 18, 19, 10, 20, 2, 1, 21, 22, 23, 24, 25, 4, 26, 27, 28, 29, 30, 31, 32, 33, 12, 34, 35, 36, 37, 38, 39, 40, 41, 42, 43, 44, 45, 46, 47, 48, 49, 50, 51, 52, 53, 54, 55, 56, 57, 58, 59, 60, 61, 62, 63, 64, 65, 66, 67, 68, 69, 70, 71, 72, 73, 74, 75, 76, 77, 78] (by decide +kernel) (by decide +kernel)
set_option maxRecDepth 20000 in
theorem gX8_senderGets_X8_senderMiss : GoodIn wsX8_senderGets (wsV RX8 154 RX8 yX8_senderMiss wsX8_senderMiss) := goodIn_app (goodIn_of _ (by decide +kernel)) ggX8_senderGets_X8_senderMiss
set_option maxRecDepth 20000 in
theorem ggX8_senderGets_X8_sendUnit : GoodIn wsX8_senderGets wsX8_sendUnit := goodIn_r _ [24, 25, 4, 26, 27, 2, 28, 29, 30, 31, 32, 33, 1, 12, 17, 18, 19, 10, 20, 34, 35, 36, 37, 38, 39, 40, 41, 42, 43, 44, 45, 46, 47, 48, 49, 50, 51, 52, 53, 54, 55, 56, 57, 58, 59, 60, 61, 62, 63, 64, 65, 66, 67, 68, 69, 70, 71, 72, 73, 74, 75, 76, 77, 78] (by decide +kernel) (by decide +kernel)
set_option maxRecDepth 20000 in
theorem gX8_senderGets_X8_sendUnit : GoodIn wsX8_senderGets (wsV RX8 151 RX8 yX8_sendUnit wsX8_sendUnit) := goodIn_app (goodIn_of _ (by decide +kernel)) ggX8_senderGets_X8_sendUnit
theorem dX8_senderGets_0 : decode cX8_senderGets 0 = .ok (.iload_n 1, 1) := by decide +kernel
theorem dX8_senderGets_1 : decode cX8_senderGets 1 = .ok (.ifCond .ne 11, 3) := by decide +kernel
theorem dX8_senderGets_4 : decode cX8_senderGets 4 = .ok (.aload_n 0, 1) := by decide +kernel
theorem dX8_senderGets_5 : decode cX8_senderGets 5 = .ok (.getfield 70, 3) := by decide +kernel
theorem dX8_senderGets_8 : decode cX8_senderGets 8 = .ok (.iconst 1, 1) := by decide +kernel
theorem dX8_senderGets_9 : decode cX8_senderGets 9 = .ok (.if_icmp .eq 7, 3) := by decide +kernel
theorem dX8_senderGets_12 : decode cX8_senderGets 12 = .ok (.iconst (-1), 1) := by decide +kernel
theorem dX8_senderGets_13 : decode cX8_senderGets 13 = .ok (.goto 13, 3) := by decide +kernel
theorem dX8_senderGets_16 : decode cX8_senderGets 16 = .ok (.aload_n 0, 1) := by decide +kernel
theorem dX8_senderGets_17 : decode cX8_senderGets 17 = .ok (.getfield 67, 3) := by decide +kernel
theorem dX8_senderGets_20 : decode cX8_senderGets 20 = .ok (.iconst 0, 1) := by decide +kernel
theorem dX8_senderGets_21 : decode cX8_senderGets 21 = .ok (.baload, 1) := by decide +kernel
theorem dX8_senderGets_22 : decode cX8_senderGets 22 = .ok (.sipush 255, 3) := by decide +kernel
theorem dX8_senderGets_25 : decode cX8_senderGets 25 = .ok (.iand, 1) := by decide +kernel
theorem dX8_senderGets_26 : decode cX8_senderGets 26 = .ok (.istore_n 2, 1) := by decide +kernel
theorem dX8_senderGets_27 : decode cX8_senderGets 27 = .ok (.aload_n 0, 1) := by decide +kernel
theorem dX8_senderGets_28 : decode cX8_senderGets 28 = .ok (.iconst 0, 1) := by decide +kernel
theorem dX8_senderGets_29 : decode cX8_senderGets 29 = .ok (.putfield 70, 3) := by decide +kernel
theorem dX8_senderGets_32 : decode cX8_senderGets 32 = .ok (.aload_n 0, 1) := by decide +kernel
theorem dX8_senderGets_33 : decode cX8_senderGets 33 = .ok (.getfield 85, 3) := by decide +kernel
theorem dX8_senderGets_36 : decode cX8_senderGets 36 = .ok (.ifCond .eq 4, 3) := by decide +kernel
theorem dX8_senderGets_39 : decode cX8_senderGets 39 = .ok (.return_, 1) := by decide +kernel
theorem dX8_senderGets_40 : decode cX8_senderGets 40 = .ok (.iload_n 2, 1) := by decide +kernel
theorem dX8_senderGets_41 : decode cX8_senderGets 41 = .ok (.bipush 24, 2) := by decide +kernel
theorem dX8_senderGets_43 : decode cX8_senderGets 43 = .ok (.if_icmp .ne 9, 3) := by decide +kernel
theorem dX8_senderGets_46 : decode cX8_senderGets 46 = .ok (.aload_n 0, 1) := by decide +kernel
theorem dX8_senderGets_47 : decode cX8_senderGets 47 = .ok (.iconst 2, 1) := by decide +kernel
theorem dX8_senderGets_48 : decode cX8_senderGets 48 = .ok (.putfield 85, 3) := by decide +kernel
theorem dX8_senderGets_51 : decode cX8_senderGets 51 = .ok (.return_, 1) := by decide +kernel
theorem dX8_senderGets_52 : decode cX8_senderGets 52 = .ok (.aload_n 0, 1) := by decide +kernel
theorem dX8_senderGets_53 : decode cX8_senderGets 53 = .ok (.getfield 91, 3) := by decide +kernel
theorem dX8_senderGets_56 : decode cX8_senderGets 56 = .ok (.ifCond .ge 7, 3) := by decide +kernel
theorem dX8_senderGets_59 : decode cX8_senderGets 59 = .ok (.iconst 1, 1) := by decide +kernel
theorem dX8_senderGets_60 : decode cX8_senderGets 60 = .ok (.goto 4, 3) := by decide +kernel
theorem dX8_senderGets_63 : decode cX8_senderGets 63 = .ok (.iconst 0, 1) := by decide +kernel
theorem dX8_senderGets_64 : decode cX8_senderGets 64 = .ok (.istore_n 3, 1) := by decide +kernel
theorem dX8_senderGets_65 : decode cX8_senderGets 65 = .ok (.iload_n 2, 1) := by decide +kernel
theorem dX8_senderGets_66 : decode cX8_senderGets 66 = .ok (.iload_n 3, 1) := by decide +kernel
theorem dX8_senderGets_67 : decode cX8_senderGets 67 = .ok (.ifCond .eq 10, 3) := by decide +kernel
theorem dX8_senderGets_70 : decode cX8_senderGets 70 = .ok (.aload_n 0, 1) := by decide +kernel
theorem dX8_senderGets_71 : decode cX8_senderGets 71 = .ok (.invokevirtual 147, 3) := by decide +kernel
theorem dX8_senderGets_74 : decode cX8_senderGets 74 = .ok (.goto 5, 3) := by decide +kernel
theorem dX8_senderGets_77 : decode cX8_senderGets 77 = .ok (.bipush 6, 2) := by decide +kernel
theorem dX8_senderGets_79 : decode cX8_senderGets 79 = .ok (.if_icmp .eq 9, 3) := by decide +kernel
theorem dX8_senderGets_82 : decode cX8_senderGets 82 = .ok (.aload_n 0, 1) := by decide +kernel
theorem dX8_senderGets_83 : decode cX8_senderGets 83 = .ok (.iload_n 3, 1) := by decide +kernel
theorem dX8_senderGets_84 : decode cX8_senderGets 84 = .ok (.invokevirtual 154, 3) := by decide +kernel
theorem dX8_senderGets_87 : decode cX8_senderGets 87 = .ok (.return_, 1) := by decide +kernel
theorem dX8_senderGets_88 : decode cX8_senderGets 88 = .ok (.iload_n 3, 1) := by decide +kernel
theorem dX8_senderGets_89 : decode cX8_senderGets 89 = .ok (.ifCond .ne 8, 3) := by decide +kernel
theorem dX8_senderGets_92 : decode cX8_senderGets 92 = .ok (.aload_n 0, 1) := by decide +kernel
theorem dX8_senderGets_93 : decode cX8_senderGets 93 = .ok (.iconst 0, 1) := by decide +kernel
theorem dX8_senderGets_94 : decode cX8_senderGets 94 = .ok (.putfield 88, 3) := by decide +kernel
theorem dX8_senderGets_97 : decode cX8_senderGets 97 = .ok (.aload_n 0, 1) := by decide +kernel
theorem dX8_senderGets_98 : decode cX8_senderGets 98 = .ok (.dup, 1) := by decide +kernel
theorem dX8_senderGets_99 : decode cX8_senderGets 99 = .ok (.getfield 91, 3) := by decide +kernel
theorem dX8_senderGets_102 : decode cX8_senderGets 102 = .ok (.iconst 1, 1) := by decide +kernel
theorem dX8_senderGets_103 : decode cX8_senderGets 103 = .ok (.iadd, 1) := by decide +kernel
theorem dX8_senderGets_104 : decode cX8_senderGets 104 = .ok (.putfield 91, 3) := by decide +kernel
theorem dX8_senderGets_107 : decode cX8_senderGets 107 = .ok (.aload_n 0, 1) := by decide +kernel
theorem dX8_senderGets_108 : decode cX8_senderGets 108 = .ok (.getfield 91, 3) := by decide +kernel
theorem dX8_senderGets_111 : decode cX8_senderGets 111 = .ok (.aload_n 0, 1) := by decide +kernel
theorem dX8_senderGets_112 : decode cX8_senderGets 112 = .ok (.getfield 39, 3) := by decide +kernel
theorem dX8_senderGets_115 : decode cX8_senderGets 115 = .ok (.if_icmp .ne 11, 3) := by decide +kernel
theorem dX8_senderGets_118 : decode cX8_senderGets 118 = .ok (.aload_n 0, 1) := by decide +kernel
theorem dX8_senderGets_119 : decode cX8_senderGets 119 = .ok (.iconst 1, 1) := by decide +kernel
theorem dX8_senderGets_120 : decode cX8_senderGets 120 = .ok (.putfield 85, 3) := by decide +kernel
theorem dX8_senderGets_123 : decode cX8_senderGets 123 = .ok (.goto 7, 3) := by decide +kernel
theorem dX8_senderGets_126 : decode cX8_senderGets 126 = .ok (.aload_n 0, 1) := by decide +kernel
theorem dX8_senderGets_127 : decode cX8_senderGets 127 = .ok (.invokevirtual 151, 3) := by decide +kernel
theorem dX8_senderGets_130 : decode cX8_senderGets 130 = .ok (.return_, 1) := by decide +kernel
set_option maxRecDepth 20000 in
theorem ggX8_receiverMiss_X8_byteOn : GoodIn wsX8_receiverMiss wsX8_byteOn := goodIn_r _ [8, 9, 10, 16, 17, 18, 19, 20, 21, 22, 23, 24, 25, 26, 27, 28, 29, 30, 31, 32, 33, 34, 35, 36, 37, 38, 39, 40, 41, 42, 43, 44, 45, 46, 47, 48, 49, 50, 51, 52, 53, 54] (by decide +kernel) (by decide +kernel)
set_option maxRecDepth 20000 in
theorem gX8_receiverMiss_X8_byteOn : GoodIn wsX8_receiverMiss (wsV RX8 136 RX8 yX8_byteOn wsX8_byteOn) := goodIn_app (goodIn_of _ (by decide +kernel)) ggX8_receiverMiss_X8_byteOn
set_option maxRecDepth 20000 in
theorem ggX8_receiverMiss_X8_ask : GoodIn wsX8_receiverMiss wsX8_ask := goodIn_r _ [14, 15, 16, 17, 18, 19, 20, 21, 22, 23, 24, 25, 26, 27, 28, 29, 30, 31, 32, 33, 34, 35, 36, 37, 38, 39, 40, 41, 42, 43, 44, 45, 46, 47, 48, 49, 50, 51, 52, 53, 54] (by decide +kernel) (by decide +kernel)
set_option maxRecDepth 20000 in
theorem gX8_receiverMiss_X8_ask : GoodIn wsX8_receiverMiss (wsV RX8 147 RX8 yX8_ask wsX8_ask) := goodIn_app (goodIn_of _ (by decide +kernel)) ggX8_receiverMiss_X8_ask
theorem dX8_receiverMiss_0 : decode cX8_receiverMiss 0 = .ok (.aload_n 0, 1) := by decide +kernel
theorem dX8_receiverMiss_1 : decode cX8_receiverMiss 1 = .ok (.dup, 1) := by decide +kernel
theorem dX8_receiverMiss_2 : decode cX8_receiverMiss 2 = .ok (.getfield 97, 3) := by decide +kernel
theorem dX8_receiverMiss_5 : decode cX8_receiverMiss 5 = .ok (.iconst 1, 1) := by decide +kernel
theorem dX8_receiverMiss_6 : decode cX8_receiverMiss 6 = .ok (.iadd, 1) := by decide +kernel
theorem dX8_receiverMiss_7 : decode cX8_receiverMiss 7 = .ok (.putfield 97, 3) := by decide +kernel
theorem dX8_receiverMiss_10 : decode cX8_receiverMiss 10 = .ok (.aload_n 0, 1) := by decide +kernel
theorem dX8_receiverMiss_11 : decode cX8_receiverMiss 11 = .ok (.getfield 97, 3) := by decide +kernel
theorem dX8_receiverMiss_14 : decode cX8_receiverMiss 14 = .ok (.bipush 11, 2) := by decide +kernel
theorem dX8_receiverMiss_16 : decode cX8_receiverMiss 16 = .ok (.if_icmp .ne 17, 3) := by decide +kernel
theorem dX8_receiverMiss_19 : decode cX8_receiverMiss 19 = .ok (.aload_n 0, 1) := by decide +kernel
theorem dX8_receiverMiss_20 : decode cX8_receiverMiss 20 = .ok (.bipush 24, 2) := by decide +kernel
theorem dX8_receiverMiss_22 : decode cX8_receiverMiss 22 = .ok (.invokevirtual 136, 3) := by decide +kernel
theorem dX8_receiverMiss_25 : decode cX8_receiverMiss 25 = .ok (.aload_n 0, 1) := by decide +kernel
theorem dX8_receiverMiss_26 : decode cX8_receiverMiss 26 = .ok (.iconst 2, 1) := by decide +kernel
theorem dX8_receiverMiss_27 : decode cX8_receiverMiss 27 = .ok (.putfield 94, 3) := by decide +kernel
theorem dX8_receiverMiss_30 : decode cX8_receiverMiss 30 = .ok (.goto 23, 3) := by decide +kernel
theorem dX8_receiverMiss_33 : decode cX8_receiverMiss 33 = .ok (.aload_n 0, 1) := by decide +kernel
theorem dX8_receiverMiss_34 : decode cX8_receiverMiss 34 = .ok (.aload_n 0, 1) := by decide +kernel
theorem dX8_receiverMiss_35 : decode cX8_receiverMiss 35 = .ok (.getfield 106, 3) := by decide +kernel
theorem dX8_receiverMiss_38 : decode cX8_receiverMiss 38 = .ok (.ifCond .eq 8, 3) := by decide +kernel
theorem dX8_receiverMiss_41 : decode cX8_receiverMiss 41 = .ok (.bipush 21, 2) := by decide +kernel
theorem dX8_receiverMiss_43 : decode cX8_receiverMiss 43 = .ok (.goto 7, 3) := by decide +kernel
theorem dX8_receiverMiss_46 : decode cX8_receiverMiss 46 = .ok (.aload_n 0, 1) := by decide +kernel
theorem dX8_receiverMiss_47 : decode cX8_receiverMiss 47 = .ok (.invokevirtual 147, 3) := by decide +kernel
theorem dX8_receiverMiss_50 : decode cX8_receiverMiss 50 = .ok (.invokevirtual 136, 3) := by decide +kernel
theorem dX8_receiverMiss_53 : decode cX8_receiverMiss 53 = .ok (.return_, 1) := by decide +kernel
set_option maxRecDepth 20000 in
theorem ggX8_isRight_X8_check : GoodIn wsX8_isRight wsX8_check := goodIn_r _ [8, 2, 1, 9, 10, 11, 12, 13, 14, 15, 16, 17, 18, 19, 20, 21, 22, 23, 24, 25, 26, 27, 28, 29, 30, 31, 32, 33, 34, 35, 36, 37, 38, 39, 40, 41, 42, 43, 44, 45, 46, 47, 48, 49] (by decide +kernel) (by decide +kernel)
set_option maxRecDepth 20000 in
theorem gX8_isRight_X8_check : GoodIn wsX8_isRight (wsV RX8 140 RX8 yX8_check wsX8_check) := goodIn_app (goodIn_of _ (by decide +kernel)) ggX8_isRight_X8_check
theorem dX8_isRight_0 : decode cX8_isRight 0 = .ok (.aload_n 0, 1) := by decide +kernel
theorem dX8_isRight_1 : decode cX8_isRight 1 = .ok (.getfield 64, 3) := by decide +kernel
theorem dX8_isRight_4 : decode cX8_isRight 4 = .ok (.ifCond .ne 7, 3) := by decide +kernel
theorem dX8_isRight_7 : decode cX8_isRight 7 = .ok (.iconst 1, 1) := by decide +kernel
theorem dX8_isRight_8 : decode cX8_isRight 8 = .ok (.goto 4, 3) := by decide +kernel
theorem dX8_isRight_11 : decode cX8_isRight 11 = .ok (.iconst 2, 1) := by decide +kernel
theorem dX8_isRight_12 : decode cX8_isRight 12 = .ok (.istore_n 1, 1) := by decide +kernel
theorem dX8_isRight_13 : decode cX8_isRight 13 = .ok (.aload_n 0, 1) := by decide +kernel
theorem dX8_isRight_14 : decode cX8_isRight 14 = .ok (.getfield 67, 3) := by decide +kernel
theorem dX8_isRight_17 : decode cX8_isRight 17 = .ok (.iconst 0, 1) := by decide +kernel
theorem dX8_isRight_18 : decode cX8_isRight 18 = .ok (.baload, 1) := by decide +kernel
theorem dX8_isRight_19 : decode cX8_isRight 19 = .ok (.iconst 1, 1) := by decide +kernel
theorem dX8_isRight_20 : decode cX8_isRight 20 = .ok (.if_icmp .ne 9, 3) := by decide +kernel
theorem dX8_isRight_23 : decode cX8_isRight 23 = .ok (.sipush 128, 3) := by decide +kernel
theorem dX8_isRight_26 : decode cX8_isRight 26 = .ok (.goto 20, 3) := by decide +kernel
theorem dX8_isRight_29 : decode cX8_isRight 29 = .ok (.aload_n 0, 1) := by decide +kernel
theorem dX8_isRight_30 : decode cX8_isRight 30 = .ok (.getfield 67, 3) := by decide +kernel
theorem dX8_isRight_33 : decode cX8_isRight 33 = .ok (.iconst 0, 1) := by decide +kernel
theorem dX8_isRight_34 : decode cX8_isRight 34 = .ok (.baload, 1) := by decide +kernel
theorem dX8_isRight_35 : decode cX8_isRight 35 = .ok (.iconst 2, 1) := by decide +kernel
theorem dX8_isRight_36 : decode cX8_isRight 36 = .ok (.if_icmp .ne 9, 3) := by decide +kernel
theorem dX8_isRight_39 : decode cX8_isRight 39 = .ok (.sipush 1024, 3) := by decide +kernel
theorem dX8_isRight_42 : decode cX8_isRight 42 = .ok (.goto 4, 3) := by decide +kernel
theorem dX8_isRight_45 : decode cX8_isRight 45 = .ok (.iconst (-1), 1) := by decide +kernel
theorem dX8_isRight_46 : decode cX8_isRight 46 = .ok (.istore_n 2, 1) := by decide +kernel
theorem dX8_isRight_47 : decode cX8_isRight 47 = .ok (.iload_n 2, 1) := by decide +kernel
theorem dX8_isRight_48 : decode cX8_isRight 48 = .ok (.ifCond .lt 42, 3) := by decide +kernel
theorem dX8_isRight_51 : decode cX8_isRight 51 = .ok (.aload_n 0, 1) := by decide +kernel
theorem dX8_isRight_52 : decode cX8_isRight 52 = .ok (.getfield 70, 3) := by decide +kernel
theorem dX8_isRight_55 : decode cX8_isRight 55 = .ok (.iconst 3, 1) := by decide +kernel
theorem dX8_isRight_56 : decode cX8_isRight 56 = .ok (.iload_n 2, 1) := by decide +kernel
theorem dX8_isRight_57 : decode cX8_isRight 57 = .ok (.iadd, 1) := by decide +kernel
theorem dX8_isRight_58 : decode cX8_isRight 58 = .ok (.iload_n 1, 1) := by decide +kernel
theorem dX8_isRight_59 : decode cX8_isRight 59 = .ok (.iadd, 1) := by decide +kernel
theorem dX8_isRight_60 : decode cX8_isRight 60 = .ok (.if_icmp .ne 30, 3) := by decide +kernel
theorem dX8_isRight_63 : decode cX8_isRight 63 = .ok (.aload_n 0, 1) := by decide +kernel
theorem dX8_isRight_64 : decode cX8_isRight 64 = .ok (.getfield 67, 3) := by decide +kernel
theorem dX8_isRight_67 : decode cX8_isRight 67 = .ok (.iconst 1, 1) := by decide +kernel
theorem dX8_isRight_68 : decode cX8_isRight 68 = .ok (.baload, 1) := by decide +kernel
theorem dX8_isRight_69 : decode cX8_isRight 69 = .ok (.sipush 255, 3) := by decide +kernel
theorem dX8_isRight_72 : decode cX8_isRight 72 = .ok (.iand, 1) := by decide +kernel
theorem dX8_isRight_73 : decode cX8_isRight 73 = .ok (.aload_n 0, 1) := by decide +kernel
theorem dX8_isRight_74 : decode cX8_isRight 74 = .ok (.getfield 67, 3) := by decide +kernel
theorem dX8_isRight_77 : decode cX8_isRight 77 = .ok (.iconst 2, 1) := by decide +kernel
theorem dX8_isRight_78 : decode cX8_isRight 78 = .ok (.baload, 1) := by decide +kernel
theorem dX8_isRight_79 : decode cX8_isRight 79 = .ok (.sipush 255, 3) := by decide +kernel
theorem dX8_isRight_82 : decode cX8_isRight 82 = .ok (.iand, 1) := by decide +kernel
theorem dX8_isRight_83 : decode cX8_isRight 83 = .ok (.iadd, 1) := by decide +kernel
theorem dX8_isRight_84 : decode cX8_isRight 84 = .ok (.sipush 255, 3) := by decide +kernel
theorem dX8_isRight_87 : decode cX8_isRight 87 = .ok (.if_icmp .eq 5, 3) := by decide +kernel
theorem dX8_isRight_90 : decode cX8_isRight 90 = .ok (.iconst 0, 1) := by decide +kernel
theorem dX8_isRight_91 : decode cX8_isRight 91 = .ok (.ireturn, 1) := by decide +kernel
theorem dX8_isRight_92 : decode cX8_isRight 92 = .ok (.aload_n 0, 1) := by decide +kernel
theorem dX8_isRight_93 : decode cX8_isRight 93 = .ok (.getfield 67, 3) := by decide +kernel
theorem dX8_isRight_96 : decode cX8_isRight 96 = .ok (.iconst 3, 1) := by decide +kernel
theorem dX8_isRight_97 : decode cX8_isRight 97 = .ok (.iload_n 2, 1) := by decide +kernel
theorem dX8_isRight_98 : decode cX8_isRight 98 = .ok (.iadd, 1) := by decide +kernel
theorem dX8_isRight_99 : decode cX8_isRight 99 = .ok (.baload, 1) := by decide +kernel
theorem dX8_isRight_100 : decode cX8_isRight 100 = .ok (.sipush 255, 3) := by decide +kernel
theorem dX8_isRight_103 : decode cX8_isRight 103 = .ok (.iand, 1) := by decide +kernel
theorem dX8_isRight_104 : decode cX8_isRight 104 = .ok (.istore_n 3, 1) := by decide +kernel
theorem dX8_isRight_105 : decode cX8_isRight 105 = .ok (.iload_n 1, 1) := by decide +kernel
theorem dX8_isRight_106 : decode cX8_isRight 106 = .ok (.iconst 2, 1) := by decide +kernel
theorem dX8_isRight_107 : decode cX8_isRight 107 = .ok (.if_icmp .ne 21, 3) := by decide +kernel
theorem dX8_isRight_110 : decode cX8_isRight 110 = .ok (.iload_n 3, 1) := by decide +kernel
theorem dX8_isRight_111 : decode cX8_isRight 111 = .ok (.bipush 8, 2) := by decide +kernel
theorem dX8_isRight_113 : decode cX8_isRight 113 = .ok (.ishl, 1) := by decide +kernel
theorem dX8_isRight_114 : decode cX8_isRight 114 = .ok (.aload_n 0, 1) := by decide +kernel
theorem dX8_isRight_115 : decode cX8_isRight 115 = .ok (.getfield 67, 3) := by decide +kernel
theorem dX8_isRight_118 : decode cX8_isRight 118 = .ok (.iconst 4, 1) := by decide +kernel
theorem dX8_isRight_119 : decode cX8_isRight 119 = .ok (.iload_n 2, 1) := by decide +kernel
theorem dX8_isRight_120 : decode cX8_isRight 120 = .ok (.iadd, 1) := by decide +kernel
theorem dX8_isRight_121 : decode cX8_isRight 121 = .ok (.baload, 1) := by decide +kernel
theorem dX8_isRight_122 : decode cX8_isRight 122 = .ok (.sipush 255, 3) := by decide +kernel
theorem dX8_isRight_125 : decode cX8_isRight 125 = .ok (.iand, 1) := by decide +kernel
theorem dX8_isRight_126 : decode cX8_isRight 126 = .ok (.ior, 1) := by decide +kernel
theorem dX8_isRight_127 : decode cX8_isRight 127 = .ok (.istore_n 3, 1) := by decide +kernel
theorem dX8_isRight_128 : decode cX8_isRight 128 = .ok (.iload_n 3, 1) := by decide +kernel
theorem dX8_isRight_129 : decode cX8_isRight 129 = .ok (.aload_n 0, 1) := by decide +kernel
theorem dX8_isRight_130 : decode cX8_isRight 130 = .ok (.iconst 3, 1) := by decide +kernel
theorem dX8_isRight_131 : decode cX8_isRight 131 = .ok (.iload_n 2, 1) := by decide +kernel
theorem dX8_isRight_132 : decode cX8_isRight 132 = .ok (.invokevirtual 140, 3) := by decide +kernel
theorem dX8_isRight_135 : decode cX8_isRight 135 = .ok (.if_icmp .ne 7, 3) := by decide +kernel
theorem dX8_isRight_138 : decode cX8_isRight 138 = .ok (.iconst 1, 1) := by decide +kernel
theorem dX8_isRight_139 : decode cX8_isRight 139 = .ok (.goto 4, 3) := by decide +kernel
theorem dX8_isRight_142 : decode cX8_isRight 142 = .ok (.iconst 0, 1) := by decide +kernel
theorem dX8_isRight_143 : decode cX8_isRight 143 = .ok (.ireturn, 1) := by decide +kernel
set_option maxRecDepth 20000 in
theorem ggX8_receiverGets_X8_fileEnds : GoodIn wsX8_receiverGets wsX8_fileEnds := goodIn_r _ [13, 8, 14, 15, 1, 16, 17, 5, 7, 51, 52, 53, 54, 55, 56, 57, 58, 59, 60, 61, 62, 63, 64, 65, 66, 67, 68, 69, 70, 71, 72, 73, 74, 75, 76, 77, 78, 79, 80, 81, 82, 83, 84, 85, 86, 87, 88, 89] (by decide +kernel) (by decide +kernel)
set_option maxRecDepth 20000 in
theorem gX8_receiverGets_X8_fileEnds : GoodIn wsX8_receiverGets (wsV RX8 158 RX8 yX8_fileEnds wsX8_fileEnds) := goodIn_app (goodIn_of _ (by decide +kernel)) ggX8_receiverGets_X8_fileEnds
set_option maxRecDepth 20000 in
theorem ggX8_receiverGets_X8_byteOn : GoodIn wsX8_receiverGets wsX8_byteOn := goodIn_r _ [21, 3, 2, 51, 52, 53, 54, 55, 56, 57, 58, 59, 60, 61, 62, 63, 64, 65, 66, 67, 68, 69, 70, 71, 72, 73, 74, 75, 76, 77, 78, 79, 80, 81, 82, 83, 84, 85, 86, 87, 88, 89] (by decide +kernel) (by decide +kernel)
set_option maxRecDepth 20000 in
theorem gX8_receiverGets_X8_byteOn : GoodIn wsX8_receiverGets (wsV RX8 136 RX8 yX8_byteOn wsX8_byteOn) := goodIn_app (goodIn_of _ (by decide +kernel)) ggX8_receiverGets_X8_byteOn
set_option maxRecDepth 20000 in
theorem ggX8_receiverGets_X8_isRight : GoodIn wsX8_receiverGets wsX8_isRight := goodIn_r _ [25, 15, 3, 2, 26, 27, 28, 12, 29, 30, 31, 51, 52, 53, 54, 55, 56, 57, 58, 59, 60, 61, 62, 63, 64, 65, 66, 67, 68, 69, 70, 71, 72, 73, 74, 75, 76, 77, 78, 79, 80, 81, 82, 83, 84, 85, 86, 87, 88, 89] (by decide +kernel) (by decide +kernel)
set_option maxRecDepth 20000 in
theorem gX8_receiverGets_X8_isRight : GoodIn wsX8_receiverGets (wsV RX8 161 RX8 yX8_isRight wsX8_isRight) := goodIn_app (goodIn_of _ (by decide +kernel)) ggX8_receiverGets_X8_isRight
set_option maxRecDepth 20000 in
theorem ggX8_receiverGets_X8_receiverMiss : GoodIn wsX8_receiverGets wsX8_receiverMiss := goodIn_r _ [35, 4, 1, 6, 18, 19, 20, 12, 21, 3, 2, 36, 37, 38, 39, 15, 51, 52, 53, 54, 55, 56, 57, 58, 59, 60, 61, 62, 63, 64, 65, 66, 67, 68, 69, 70, 71, 72, 73, 74, 75, 76, 77, 78, 79, 80, 81, 82, 83, 84, 85, 86, 87, 88, 89] (by decide +kernel) (by decide +kernel)
set_option maxRecDepth 20000 in
theorem gX8_receiverGets_X8_receiverMiss : GoodIn wsX8_receiverGets (wsV RX8 165 RX8 yX8_receiverMiss wsX8_receiverMiss) := goodIn_app (goodIn_of _ (by decide +kernel)) ggX8_receiverGets_X8_receiverMiss
set_option maxRecDepth 20000 in
theorem ggX8_receiverGets_X8_head : GoodIn wsX8_receiverGets wsX8_head := goodIn_r _ [43, 3, 1, 14, 44, 45, 16, 17, 8, 5, 51, 52, 53, 54, 55, 56, 57, 58, 59, 60, 61, 62, 63, 64, 65, 66, 67, 68, 69, 70, 71, 72, 73, 74, 75, 76, 77, 78, 79, 80, 81, 82, 83, 84, 85, 86, 87, 88, 89] (by decide +kernel) (by decide +kernel)
set_option maxRecDepth 20000 in
theorem gX8_receiverGets_X8_head : GoodIn wsX8_receiverGets (wsV RX8 168 RX8 yX8_head wsX8_head) := goodIn_app (goodIn_of _ (by decide +kernel)) ggX8_receiverGets_X8_head
set_option maxRecDepth 20000 in
theorem ggX8_receiverGets_X8_keep : GoodIn wsX8_receiverGets wsX8_keep := goodIn_r _ [49, 14, 3, 50, 16, 5, 51, 52, 53, 54, 55, 56, 57, 58, 59, 60, 61, 62, 63, 64, 65, 66, 67, 68, 69, 70, 71, 72, 73, 74, 75, 76, 77, 78, 79, 80, 81, 82, 83, 84, 85, 86, 87, 88, 89] (by decide +kernel) (by decide +kernel)
set_option maxRecDepth 20000 in
theorem gX8_receiverGets_X8_keep : GoodIn wsX8_receiverGets (wsV RX8 171 RX8 yX8_keep wsX8_keep) := goodIn_app (goodIn_of _ (by decide +kernel)) ggX8_receiverGets_X8_keep
theorem dX8_receiverGets_0 : decode cX8_receiverGets 0 = .ok (.aload_n 0, 1) := by decide +kernel
theorem dX8_receiverGets_1 : decode cX8_receiverGets 1 = .ok (.getfield 94, 3) := by decide +kernel
theorem dX8_receiverGets_4 : decode cX8_receiverGets 4 = .ok (.ifCond .eq 9, 3) := by decide +kernel
theorem dX8_receiverGets_7 : decode cX8_receiverGets 7 = .ok (.aload_n 0, 1) := by decide +kernel
theorem dX8_receiverGets_8 : decode cX8_receiverGets 8 = .ok (.iconst 0, 1) := by decide +kernel
theorem dX8_receiverGets_9 : decode cX8_receiverGets 9 = .ok (.putfield 70, 3) := by decide +kernel
theorem dX8_receiverGets_12 : decode cX8_receiverGets 12 = .ok (.return_, 1) := by decide +kernel
theorem dX8_receiverGets_13 : decode cX8_receiverGets 13 = .ok (.iload_n 1, 1) := by decide +kernel
theorem dX8_receiverGets_14 : decode cX8_receiverGets 14 = .ok (.ifCond .ne 37, 3) := by decide +kernel
theorem dX8_receiverGets_17 : decode cX8_receiverGets 17 = .ok (.aload_n 0, 1) := by decide +kernel
theorem dX8_receiverGets_18 : decode cX8_receiverGets 18 = .ok (.getfield 70, 3) := by decide +kernel
theorem dX8_receiverGets_21 : decode cX8_receiverGets 21 = .ok (.iconst 1, 1) := by decide +kernel
theorem dX8_receiverGets_22 : decode cX8_receiverGets 22 = .ok (.if_icmp .ne 29, 3) := by decide +kernel
theorem dX8_receiverGets_25 : decode cX8_receiverGets 25 = .ok (.aload_n 0, 1) := by decide +kernel
theorem dX8_receiverGets_26 : decode cX8_receiverGets 26 = .ok (.getfield 67, 3) := by decide +kernel
theorem dX8_receiverGets_29 : decode cX8_receiverGets 29 = .ok (.iconst 0, 1) := by decide +kernel
theorem dX8_receiverGets_30 : decode cX8_receiverGets 30 = .ok (.baload, 1) := by decide +kernel
theorem dX8_receiverGets_31 : decode cX8_receiverGets 31 = .ok (.iconst 4, 1) := by decide +kernel
theorem dX8_receiverGets_32 : decode cX8_receiverGets 32 = .ok (.if_icmp .ne 19, 3) := by decide +kernel
theorem dX8_receiverGets_35 : decode cX8_receiverGets 35 = .ok (.aload_n 0, 1) := by decide +kernel
theorem dX8_receiverGets_36 : decode cX8_receiverGets 36 = .ok (.iconst 0, 1) := by decide +kernel
theorem dX8_receiverGets_37 : decode cX8_receiverGets 37 = .ok (.putfield 97, 3) := by decide +kernel
theorem dX8_receiverGets_40 : decode cX8_receiverGets 40 = .ok (.aload_n 0, 1) := by decide +kernel
theorem dX8_receiverGets_41 : decode cX8_receiverGets 41 = .ok (.invokevirtual 158, 3) := by decide +kernel
theorem dX8_receiverGets_44 : decode cX8_receiverGets 44 = .ok (.aload_n 0, 1) := by decide +kernel
theorem dX8_receiverGets_45 : decode cX8_receiverGets 45 = .ok (.bipush 6, 2) := by decide +kernel
theorem dX8_receiverGets_47 : decode cX8_receiverGets 47 = .ok (.invokevirtual 136, 3) := by decide +kernel
theorem dX8_receiverGets_50 : decode cX8_receiverGets 50 = .ok (.return_, 1) := by decide +kernel
theorem dX8_receiverGets_51 : decode cX8_receiverGets 51 = .ok (.iload_n 1, 1) := by decide +kernel
theorem dX8_receiverGets_52 : decode cX8_receiverGets 52 = .ok (.ifCond .ne 33, 3) := by decide +kernel
theorem dX8_receiverGets_55 : decode cX8_receiverGets 55 = .ok (.aload_n 0, 1) := by decide +kernel
theorem dX8_receiverGets_56 : decode cX8_receiverGets 56 = .ok (.getfield 70, 3) := by decide +kernel
theorem dX8_receiverGets_59 : decode cX8_receiverGets 59 = .ok (.iconst 1, 1) := by decide +kernel
theorem dX8_receiverGets_60 : decode cX8_receiverGets 60 = .ok (.if_icmp .ne 25, 3) := by decide +kernel
theorem dX8_receiverGets_63 : decode cX8_receiverGets 63 = .ok (.aload_n 0, 1) := by decide +kernel
theorem dX8_receiverGets_64 : decode cX8_receiverGets 64 = .ok (.getfield 67, 3) := by decide +kernel
theorem dX8_receiverGets_67 : decode cX8_receiverGets 67 = .ok (.iconst 0, 1) := by decide +kernel
theorem dX8_receiverGets_68 : decode cX8_receiverGets 68 = .ok (.baload, 1) := by decide +kernel
theorem dX8_receiverGets_69 : decode cX8_receiverGets 69 = .ok (.bipush 24, 2) := by decide +kernel
theorem dX8_receiverGets_71 : decode cX8_receiverGets 71 = .ok (.if_icmp .ne 14, 3) := by decide +kernel
theorem dX8_receiverGets_74 : decode cX8_receiverGets 74 = .ok (.aload_n 0, 1) := by decide +kernel
theorem dX8_receiverGets_75 : decode cX8_receiverGets 75 = .ok (.iconst 2, 1) := by decide +kernel
theorem dX8_receiverGets_76 : decode cX8_receiverGets 76 = .ok (.putfield 94, 3) := by decide +kernel
theorem dX8_receiverGets_79 : decode cX8_receiverGets 79 = .ok (.aload_n 0, 1) := by decide +kernel
theorem dX8_receiverGets_80 : decode cX8_receiverGets 80 = .ok (.iconst 0, 1) := by decide +kernel
theorem dX8_receiverGets_81 : decode cX8_receiverGets 81 = .ok (.putfield 70, 3) := by decide +kernel
theorem dX8_receiverGets_84 : decode cX8_receiverGets 84 = .ok (.return_, 1) := by decide +kernel
theorem dX8_receiverGets_85 : decode cX8_receiverGets 85 = .ok (.iload_n 1, 1) := by decide +kernel
theorem dX8_receiverGets_86 : decode cX8_receiverGets 86 = .ok (.ifCond .ne 19, 3) := by decide +kernel
theorem dX8_receiverGets_89 : decode cX8_receiverGets 89 = .ok (.aload_n 0, 1) := by decide +kernel
theorem dX8_receiverGets_90 : decode cX8_receiverGets 90 = .ok (.getfield 70, 3) := by decide +kernel
theorem dX8_receiverGets_93 : decode cX8_receiverGets 93 = .ok (.bipush 100, 2) := by decide +kernel
theorem dX8_receiverGets_95 : decode cX8_receiverGets 95 = .ok (.if_icmp .lt 10, 3) := by decide +kernel
theorem dX8_receiverGets_98 : decode cX8_receiverGets 98 = .ok (.aload_n 0, 1) := by decide +kernel
theorem dX8_receiverGets_99 : decode cX8_receiverGets 99 = .ok (.invokevirtual 161, 3) := by decide +kernel
theorem dX8_receiverGets_102 : decode cX8_receiverGets 102 = .ok (.ifCond .ne 8, 3) := by decide +kernel
theorem dX8_receiverGets_105 : decode cX8_receiverGets 105 = .ok (.aload_n 0, 1) := by decide +kernel
theorem dX8_receiverGets_106 : decode cX8_receiverGets 106 = .ok (.invokevirtual 165, 3) := by decide +kernel
theorem dX8_receiverGets_109 : decode cX8_receiverGets 109 = .ok (.return_, 1) := by decide +kernel
theorem dX8_receiverGets_110 : decode cX8_receiverGets 110 = .ok (.aload_n 0, 1) := by decide +kernel
theorem dX8_receiverGets_111 : decode cX8_receiverGets 111 = .ok (.getfield 67, 3) := by decide +kernel
theorem dX8_receiverGets_114 : decode cX8_receiverGets 114 = .ok (.iconst 1, 1) := by decide +kernel
theorem dX8_receiverGets_115 : decode cX8_receiverGets 115 = .ok (.baload, 1) := by decide +kernel
theorem dX8_receiverGets_116 : decode cX8_receiverGets 116 = .ok (.sipush 255, 3) := by decide +kernel
theorem dX8_receiverGets_119 : decode cX8_receiverGets 119 = .ok (.iand, 1) := by decide +kernel
theorem dX8_receiverGets_120 : decode cX8_receiverGets 120 = .ok (.istore_n 2, 1) := by decide +kernel
theorem dX8_receiverGets_121 : decode cX8_receiverGets 121 = .ok (.iload_n 2, 1) := by decide +kernel
theorem dX8_receiverGets_122 : decode cX8_receiverGets 122 = .ok (.aload_n 0, 1) := by decide +kernel
theorem dX8_receiverGets_123 : decode cX8_receiverGets 123 = .ok (.getfield 100, 3) := by decide +kernel
theorem dX8_receiverGets_126 : decode cX8_receiverGets 126 = .ok (.if_icmp .ne 45, 3) := by decide +kernel
theorem dX8_receiverGets_129 : decode cX8_receiverGets 129 = .ok (.aload_n 0, 1) := by decide +kernel
theorem dX8_receiverGets_130 : decode cX8_receiverGets 130 = .ok (.iconst 0, 1) := by decide +kernel
theorem dX8_receiverGets_131 : decode cX8_receiverGets 131 = .ok (.putfield 97, 3) := by decide +kernel
theorem dX8_receiverGets_134 : decode cX8_receiverGets 134 = .ok (.aload_n 0, 1) := by decide +kernel
theorem dX8_receiverGets_135 : decode cX8_receiverGets 135 = .ok (.iconst 1, 1) := by decide +kernel
theorem dX8_receiverGets_136 : decode cX8_receiverGets 136 = .ok (.putfield 106, 3) := by decide +kernel
theorem dX8_receiverGets_139 : decode cX8_receiverGets 139 = .ok (.aload_n 0, 1) := by decide +kernel
theorem dX8_receiverGets_140 : decode cX8_receiverGets 140 = .ok (.iconst 1, 1) := by decide +kernel
theorem dX8_receiverGets_141 : decode cX8_receiverGets 141 = .ok (.putfield 109, 3) := by decide +kernel
theorem dX8_receiverGets_144 : decode cX8_receiverGets 144 = .ok (.aload_n 0, 1) := by decide +kernel
theorem dX8_receiverGets_145 : decode cX8_receiverGets 145 = .ok (.getfield 103, 3) := by decide +kernel
theorem dX8_receiverGets_148 : decode cX8_receiverGets 148 = .ok (.ifCond .eq 10, 3) := by decide +kernel
theorem dX8_receiverGets_151 : decode cX8_receiverGets 151 = .ok (.aload_n 0, 1) := by decide +kernel
theorem dX8_receiverGets_152 : decode cX8_receiverGets 152 = .ok (.invokevirtual 168, 3) := by decide +kernel
theorem dX8_receiverGets_155 : decode cX8_receiverGets 155 = .ok (.goto 7, 3) := by decide +kernel
theorem dX8_receiverGets_158 : decode cX8_receiverGets 158 = .ok (.aload_n 0, 1) := by decide +kernel
theorem dX8_receiverGets_159 : decode cX8_receiverGets 159 = .ok (.invokevirtual 171, 3) := by decide +kernel
theorem dX8_receiverGets_162 : decode cX8_receiverGets 162 = .ok (.aload_n 0, 1) := by decide +kernel
theorem dX8_receiverGets_163 : decode cX8_receiverGets 163 = .ok (.bipush 6, 2) := by decide +kernel
theorem dX8_receiverGets_165 : decode cX8_receiverGets 165 = .ok (.invokevirtual 136, 3) := by decide +kernel
theorem dX8_receiverGets_168 : decode cX8_receiverGets 168 = .ok (.goto 56, 3) := by decide +kernel
theorem dX8_receiverGets_171 : decode cX8_receiverGets 171 = .ok (.iload_n 2, 1) := by decide +kernel
theorem dX8_receiverGets_172 : decode cX8_receiverGets 172 = .ok (.aload_n 0, 1) := by decide +kernel
theorem dX8_receiverGets_173 : decode cX8_receiverGets 173 = .ok (.getfield 100, 3) := by decide +kernel
theorem dX8_receiverGets_176 : decode cX8_receiverGets 176 = .ok (.sipush 255, 3) := by decide +kernel
theorem dX8_receiverGets_179 : decode cX8_receiverGets 179 = .ok (.iadd, 1) := by decide +kernel
theorem dX8_receiverGets_180 : decode cX8_receiverGets 180 = .ok (.sipush 256, 3) := by decide +kernel
theorem dX8_receiverGets_183 : decode cX8_receiverGets 183 = .ok (.irem, 1) := by decide +kernel
theorem dX8_receiverGets_184 : decode cX8_receiverGets 184 = .ok (.if_icmp .ne 29, 3) := by decide +kernel
theorem dX8_receiverGets_187 : decode cX8_receiverGets 187 = .ok (.aload_n 0, 1) := by decide +kernel
theorem dX8_receiverGets_188 : decode cX8_receiverGets 188 = .ok (.getfield 109, 3) := by decide +kernel
theorem dX8_receiverGets_191 : decode cX8_receiverGets 191 = .ok (.ifCond .eq 22, 3) := by decide +kernel
theorem dX8_receiverGets_194 : decode cX8_receiverGets 194 = .ok (.aload_n 0, 1) := by decide +kernel
theorem dX8_receiverGets_195 : decode cX8_receiverGets 195 = .ok (.iconst 0, 1) := by decide +kernel
theorem dX8_receiverGets_196 : decode cX8_receiverGets 196 = .ok (.putfield 97, 3) := by decide +kernel
theorem dX8_receiverGets_199 : decode cX8_receiverGets 199 = .ok (.aload_n 0, 1) := by decide +kernel
theorem dX8_receiverGets_200 : decode cX8_receiverGets 200 = .ok (.iconst 1, 1) := by decide +kernel
theorem dX8_receiverGets_201 : decode cX8_receiverGets 201 = .ok (.putfield 106, 3) := by decide +kernel
theorem dX8_receiverGets_204 : decode cX8_receiverGets 204 = .ok (.aload_n 0, 1) := by decide +kernel
theorem dX8_receiverGets_205 : decode cX8_receiverGets 205 = .ok (.bipush 6, 2) := by decide +kernel
theorem dX8_receiverGets_207 : decode cX8_receiverGets 207 = .ok (.invokevirtual 136, 3) := by decide +kernel
theorem dX8_receiverGets_210 : decode cX8_receiverGets 210 = .ok (.goto 14, 3) := by decide +kernel
theorem dX8_receiverGets_213 : decode cX8_receiverGets 213 = .ok (.aload_n 0, 1) := by decide +kernel
theorem dX8_receiverGets_214 : decode cX8_receiverGets 214 = .ok (.iconst 2, 1) := by decide +kernel
theorem dX8_receiverGets_215 : decode cX8_receiverGets 215 = .ok (.putfield 94, 3) := by decide +kernel
theorem dX8_receiverGets_218 : decode cX8_receiverGets 218 = .ok (.aload_n 0, 1) := by decide +kernel
theorem dX8_receiverGets_219 : decode cX8_receiverGets 219 = .ok (.bipush 24, 2) := by decide +kernel
theorem dX8_receiverGets_221 : decode cX8_receiverGets 221 = .ok (.invokevirtual 136, 3) := by decide +kernel
theorem dX8_receiverGets_224 : decode cX8_receiverGets 224 = .ok (.return_, 1) := by decide +kernel
theorem dX8_keep_0 : decode cX8_keep 0 = .ok (.aload_n 0, 1) := by decide +kernel
theorem dX8_keep_1 : decode cX8_keep 1 = .ok (.getfield 112, 3) := by decide +kernel
theorem dX8_keep_4 : decode cX8_keep 4 = .ok (.iconst 1, 1) := by decide +kernel
theorem dX8_keep_5 : decode cX8_keep 5 = .ok (.isub, 1) := by decide +kernel
theorem dX8_keep_6 : decode cX8_keep 6 = .ok (.istore_n 1, 1) := by decide +kernel
theorem dX8_keep_7 : decode cX8_keep 7 = .ok (.aload_n 0, 1) := by decide +kernel
theorem dX8_keep_8 : decode cX8_keep 8 = .ok (.getfield 67, 3) := by decide +kernel
theorem dX8_keep_11 : decode cX8_keep 11 = .ok (.iconst 0, 1) := by decide +kernel
theorem dX8_keep_12 : decode cX8_keep 12 = .ok (.baload, 1) := by decide +kernel
theorem dX8_keep_13 : decode cX8_keep 13 = .ok (.iconst 1, 1) := by decide +kernel
theorem dX8_keep_14 : decode cX8_keep 14 = .ok (.if_icmp .ne 9, 3) := by decide +kernel
theorem dX8_keep_17 : decode cX8_keep 17 = .ok (.sipush 128, 3) := by decide +kernel
theorem dX8_keep_20 : decode cX8_keep 20 = .ok (.goto 6, 3) := by decide +kernel
theorem dX8_keep_23 : decode cX8_keep 23 = .ok (.sipush 1024, 3) := by decide +kernel
theorem dX8_keep_26 : decode cX8_keep 26 = .ok (.istore_n 2, 1) := by decide +kernel
theorem dX8_keep_27 : decode cX8_keep 27 = .ok (.iconst 0, 1) := by decide +kernel
theorem dX8_keep_28 : decode cX8_keep 28 = .ok (.istore_n 3, 1) := by decide +kernel
theorem dX8_keep_29 : decode cX8_keep 29 = .ok (.iload_n 3, 1) := by decide +kernel
theorem dX8_keep_30 : decode cX8_keep 30 = .ok (.iload_n 2, 1) := by decide +kernel
theorem dX8_keep_31 : decode cX8_keep 31 = .ok (.if_icmp .ge 36, 3) := by decide +kernel
theorem dX8_keep_34 : decode cX8_keep 34 = .ok (.aload_n 0, 1) := by decide +kernel
theorem dX8_keep_35 : decode cX8_keep 35 = .ok (.getfield 121, 3) := by decide +kernel
theorem dX8_keep_38 : decode cX8_keep 38 = .ok (.sipush 3500, 3) := by decide +kernel
theorem dX8_keep_41 : decode cX8_keep 41 = .ok (.iload_n 1, 1) := by decide +kernel
theorem dX8_keep_42 : decode cX8_keep 42 = .ok (.imul, 1) := by decide +kernel
theorem dX8_keep_43 : decode cX8_keep 43 = .ok (.aload_n 0, 1) := by decide +kernel
theorem dX8_keep_44 : decode cX8_keep 44 = .ok (.getfield 124, 3) := by decide +kernel
theorem dX8_keep_47 : decode cX8_keep 47 = .ok (.iload_n 1, 1) := by decide +kernel
theorem dX8_keep_48 : decode cX8_keep 48 = .ok (.iaload, 1) := by decide +kernel
theorem dX8_keep_49 : decode cX8_keep 49 = .ok (.iadd, 1) := by decide +kernel
theorem dX8_keep_50 : decode cX8_keep 50 = .ok (.iload_n 3, 1) := by decide +kernel
theorem dX8_keep_51 : decode cX8_keep 51 = .ok (.iadd, 1) := by decide +kernel
theorem dX8_keep_52 : decode cX8_keep 52 = .ok (.aload_n 0, 1) := by decide +kernel
theorem dX8_keep_53 : decode cX8_keep 53 = .ok (.getfield 67, 3) := by decide +kernel
theorem dX8_keep_56 : decode cX8_keep 56 = .ok (.iconst 3, 1) := by decide +kernel
theorem dX8_keep_57 : decode cX8_keep 57 = .ok (.iload_n 3, 1) := by decide +kernel
theorem dX8_keep_58 : decode cX8_keep 58 = .ok (.iadd, 1) := by decide +kernel
theorem dX8_keep_59 : decode cX8_keep 59 = .ok (.baload, 1) := by decide +kernel
theorem dX8_keep_60 : decode cX8_keep 60 = .ok (.bastore, 1) := by decide +kernel
theorem dX8_keep_61 : decode cX8_keep 61 = .ok (.iinc 3 1, 3) := by decide +kernel
theorem dX8_keep_64 : decode cX8_keep 64 = .ok (.goto (-35), 3) := by decide +kernel
theorem dX8_keep_67 : decode cX8_keep 67 = .ok (.aload_n 0, 1) := by decide +kernel
theorem dX8_keep_68 : decode cX8_keep 68 = .ok (.getfield 124, 3) := by decide +kernel
theorem dX8_keep_71 : decode cX8_keep 71 = .ok (.iload_n 1, 1) := by decide +kernel
theorem dX8_keep_72 : decode cX8_keep 72 = .ok (.dup2, 1) := by decide +kernel
theorem dX8_keep_73 : decode cX8_keep 73 = .ok (.iaload, 1) := by decide +kernel
theorem dX8_keep_74 : decode cX8_keep 74 = .ok (.iload_n 2, 1) := by decide +kernel
theorem dX8_keep_75 : decode cX8_keep 75 = .ok (.iadd, 1) := by decide +kernel
theorem dX8_keep_76 : decode cX8_keep 76 = .ok (.iastore, 1) := by decide +kernel
theorem dX8_keep_77 : decode cX8_keep 77 = .ok (.aload_n 0, 1) := by decide +kernel
theorem dX8_keep_78 : decode cX8_keep 78 = .ok (.aload_n 0, 1) := by decide +kernel
theorem dX8_keep_79 : decode cX8_keep 79 = .ok (.getfield 100, 3) := by decide +kernel
theorem dX8_keep_82 : decode cX8_keep 82 = .ok (.iconst 1, 1) := by decide +kernel
theorem dX8_keep_83 : decode cX8_keep 83 = .ok (.iadd, 1) := by decide +kernel
theorem dX8_keep_84 : decode cX8_keep 84 = .ok (.sipush 256, 3) := by decide +kernel
theorem dX8_keep_87 : decode cX8_keep 87 = .ok (.irem, 1) := by decide +kernel
theorem dX8_keep_88 : decode cX8_keep 88 = .ok (.putfield 100, 3) := by decide +kernel
theorem dX8_keep_91 : decode cX8_keep 91 = .ok (.return_, 1) := by decide +kernel
theorem dX8_head_0 : decode cX8_head 0 = .ok (.iconst 0, 1) := by decide +kernel
theorem dX8_head_1 : decode cX8_head 1 = .ok (.istore_n 1, 1) := by decide +kernel
theorem dX8_head_2 : decode cX8_head 2 = .ok (.iload_n 1, 1) := by decide +kernel
theorem dX8_head_3 : decode cX8_head 3 = .ok (.sipush 128, 3) := by decide +kernel
theorem dX8_head_6 : decode cX8_head 6 = .ok (.if_icmp .ge 20, 3) := by decide +kernel
theorem dX8_head_9 : decode cX8_head 9 = .ok (.aload_n 0, 1) := by decide +kernel
theorem dX8_head_10 : decode cX8_head 10 = .ok (.getfield 67, 3) := by decide +kernel
theorem dX8_head_13 : decode cX8_head 13 = .ok (.iconst 3, 1) := by decide +kernel
theorem dX8_head_14 : decode cX8_head 14 = .ok (.iload_n 1, 1) := by decide +kernel
theorem dX8_head_15 : decode cX8_head 15 = .ok (.iadd, 1) := by decide +kernel
theorem dX8_head_16 : decode cX8_head 16 = .ok (.baload, 1) := by decide +kernel
theorem dX8_head_17 : decode cX8_head 17 = .ok (.ifCond .eq 9, 3) := by decide +kernel
theorem dX8_head_20 : decode cX8_head 20 = .ok (.iinc 1 1, 3) := by decide +kernel
theorem dX8_head_23 : decode cX8_head 23 = .ok (.goto (-21), 3) := by decide +kernel
theorem dX8_head_26 : decode cX8_head 26 = .ok (.iload_n 1, 1) := by decide +kernel
theorem dX8_head_27 : decode cX8_head 27 = .ok (.ifCond .ne 9, 3) := by decide +kernel
theorem dX8_head_30 : decode cX8_head 30 = .ok (.aload_n 0, 1) := by decide +kernel
theorem dX8_head_31 : decode cX8_head 31 = .ok (.iconst 1, 1) := by decide +kernel
theorem dX8_head_32 : decode cX8_head 32 = .ok (.putfield 94, 3) := by decide +kernel
theorem dX8_head_35 : decode cX8_head 35 = .ok (.return_, 1) := by decide +kernel
theorem dX8_head_36 : decode cX8_head 36 = .ok (.aload_n 0, 1) := by decide +kernel
theorem dX8_head_37 : decode cX8_head 37 = .ok (.getfield 112, 3) := by decide +kernel
theorem dX8_head_40 : decode cX8_head 40 = .ok (.istore_n 2, 1) := by decide +kernel
theorem dX8_head_41 : decode cX8_head 41 = .ok (.aload_n 0, 1) := by decide +kernel
theorem dX8_head_42 : decode cX8_head 42 = .ok (.dup, 1) := by decide +kernel
theorem dX8_head_43 : decode cX8_head 43 = .ok (.getfield 112, 3) := by decide +kernel
theorem dX8_head_46 : decode cX8_head 46 = .ok (.iconst 1, 1) := by decide +kernel
theorem dX8_head_47 : decode cX8_head 47 = .ok (.iadd, 1) := by decide +kernel
theorem dX8_head_48 : decode cX8_head 48 = .ok (.putfield 112, 3) := by decide +kernel
theorem dX8_head_51 : decode cX8_head 51 = .ok (.aload_n 0, 1) := by decide +kernel
theorem dX8_head_52 : decode cX8_head 52 = .ok (.getfield 118, 3) := by decide +kernel
theorem dX8_head_55 : decode cX8_head 55 = .ok (.iload_n 2, 1) := by decide +kernel
theorem dX8_head_56 : decode cX8_head 56 = .ok (.iload_n 1, 1) := by decide +kernel
theorem dX8_head_57 : decode cX8_head 57 = .ok (.bipush 12, 2) := by decide +kernel
theorem dX8_head_59 : decode cX8_head 59 = .ok (.if_icmp .ge 7, 3) := by decide +kernel
theorem dX8_head_62 : decode cX8_head 62 = .ok (.iload_n 1, 1) := by decide +kernel
theorem dX8_head_63 : decode cX8_head 63 = .ok (.goto 5, 3) := by decide +kernel
theorem dX8_head_66 : decode cX8_head 66 = .ok (.bipush 12, 2) := by decide +kernel
