theorem dX0_init_0 : decode cX0_init 0 = .ok (.aload_n 0, 1) := by decide +kernel
theorem dX0_init_1 : decode cX0_init 1 = .ok (.invokespecial 3, 3) := by decide +kernel
theorem dX0_init_4 : decode cX0_init 4 = .ok (.aload_n 0, 1) := by decide +kernel
theorem dX0_init_5 : decode cX0_init 5 = .ok (.sipush 2048, 3) := by decide +kernel
theorem dX0_init_8 : decode cX0_init 8 = .ok (.newarray .byte, 2) := by decide +kernel
theorem dX0_init_10 : decode cX0_init 10 = .ok (.putfield 11, 3) := by decide +kernel
theorem dX0_init_13 : decode cX0_init 13 = .ok (.aload_n 0, 1) := by decide +kernel
theorem dX0_init_14 : decode cX0_init 14 = .ok (.bipush 11, 2) := by decide +kernel
theorem dX0_init_16 : decode cX0_init 16 = .ok (.newarray .int, 2) := by decide +kernel
theorem dX0_init_18 : decode cX0_init 18 = .ok (.putfield 15, 3) := by decide +kernel
theorem dX0_init_21 : decode cX0_init 21 = .ok (.return_, 1) := by decide +kernel
theorem dX0_fileOf_0 : decode cX0_fileOf 0 = .ok (.aload_n 1, 1) := by decide +kernel
theorem dX0_fileOf_1 : decode cX0_fileOf 1 = .ok (.getfield 19, 3) := by decide +kernel
theorem dX0_fileOf_4 : decode cX0_fileOf 4 = .ok (.ifnonnull 118, 3) := by decide +kernel
theorem dX0_fileOf_7 : decode cX0_fileOf 7 = .ok (.aload_n 1, 1) := by decide +kernel
theorem dX0_fileOf_8 : decode cX0_fileOf 8 = .ok (.getfield 24, 3) := by decide +kernel
theorem dX0_fileOf_11 : decode cX0_fileOf 11 = .ok (.bipush 10, 2) := by decide +kernel
theorem dX0_fileOf_13 : decode cX0_fileOf 13 = .ok (.iadd, 1) := by decide +kernel
theorem dX0_fileOf_14 : decode cX0_fileOf 14 = .ok (.iconst 1, 1) := by decide +kernel
theorem dX0_fileOf_15 : decode cX0_fileOf 15 = .ok (.isub, 1) := by decide +kernel
theorem dX0_fileOf_16 : decode cX0_fileOf 16 = .ok (.bipush 10, 2) := by decide +kernel
theorem dX0_fileOf_18 : decode cX0_fileOf 18 = .ok (.idiv, 1) := by decide +kernel
theorem dX0_fileOf_19 : decode cX0_fileOf 19 = .ok (.istore_n 2, 1) := by decide +kernel
theorem dX0_fileOf_20 : decode cX0_fileOf 20 = .ok (.aload_n 0, 1) := by decide +kernel
theorem dX0_fileOf_21 : decode cX0_fileOf 21 = .ok (.iconst 0, 1) := by decide +kernel
theorem dX0_fileOf_22 : decode cX0_fileOf 22 = .ok (.putfield 28, 3) := by decide +kernel
theorem dX0_fileOf_25 : decode cX0_fileOf 25 = .ok (.aload_n 0, 1) := by decide +kernel
theorem dX0_fileOf_26 : decode cX0_fileOf 26 = .ok (.aload_n 1, 1) := by decide +kernel
theorem dX0_fileOf_27 : decode cX0_fileOf 27 = .ok (.getfield 31, 3) := by decide +kernel
theorem dX0_fileOf_30 : decode cX0_fileOf 30 = .ok (.getfield 35, 3) := by decide +kernel
theorem dX0_fileOf_33 : decode cX0_fileOf 33 = .ok (.iload_n 2, 1) := by decide +kernel
theorem dX0_fileOf_34 : decode cX0_fileOf 34 = .ok (.invokevirtual 40, 3) := by decide +kernel
theorem dX0_fileOf_37 : decode cX0_fileOf 37 = .ok (.aload_n 0, 1) := by decide +kernel
theorem dX0_fileOf_38 : decode cX0_fileOf 38 = .ok (.iload_n 2, 1) := by decide +kernel
theorem dX0_fileOf_39 : decode cX0_fileOf 39 = .ok (.invokevirtual 44, 3) := by decide +kernel
theorem dX0_fileOf_42 : decode cX0_fileOf 42 = .ok (.aload_n 0, 1) := by decide +kernel
theorem dX0_fileOf_43 : decode cX0_fileOf 43 = .ok (.aload_n 1, 1) := by decide +kernel
theorem dX0_fileOf_44 : decode cX0_fileOf 44 = .ok (.getfield 31, 3) := by decide +kernel
theorem dX0_fileOf_47 : decode cX0_fileOf 47 = .ok (.invokevirtual 48, 3) := by decide +kernel
theorem dX0_fileOf_50 : decode cX0_fileOf 50 = .ok (.iconst 0, 1) := by decide +kernel
theorem dX0_fileOf_51 : decode cX0_fileOf 51 = .ok (.istore_n 3, 1) := by decide +kernel
theorem dX0_fileOf_52 : decode cX0_fileOf 52 = .ok (.iload_n 3, 1) := by decide +kernel
theorem dX0_fileOf_53 : decode cX0_fileOf 53 = .ok (.iload_n 2, 1) := by decide +kernel
theorem dX0_fileOf_54 : decode cX0_fileOf 54 = .ok (.if_icmp .ge 48, 3) := by decide +kernel
theorem dX0_fileOf_57 : decode cX0_fileOf 57 = .ok (.aload_n 0, 1) := by decide +kernel
theorem dX0_fileOf_58 : decode cX0_fileOf 58 = .ok (.iload_n 3, 1) := by decide +kernel
theorem dX0_fileOf_59 : decode cX0_fileOf 59 = .ok (.bipush 10, 2) := by decide +kernel
theorem dX0_fileOf_61 : decode cX0_fileOf 61 = .ok (.imul, 1) := by decide +kernel
theorem dX0_fileOf_62 : decode cX0_fileOf 62 = .ok (.iconst 1, 1) := by decide +kernel
theorem dX0_fileOf_63 : decode cX0_fileOf 63 = .ok (.iadd, 1) := by decide +kernel
theorem dX0_fileOf_64 : decode cX0_fileOf 64 = .ok (.putfield 52, 3) := by decide +kernel
theorem dX0_fileOf_67 : decode cX0_fileOf 67 = .ok (.aload_n 0, 1) := by decide +kernel
theorem dX0_fileOf_68 : decode cX0_fileOf 68 = .ok (.aload_n 0, 1) := by decide +kernel
theorem dX0_fileOf_69 : decode cX0_fileOf 69 = .ok (.getfield 52, 3) := by decide +kernel
theorem dX0_fileOf_72 : decode cX0_fileOf 72 = .ok (.bipush 10, 2) := by decide +kernel
theorem dX0_fileOf_74 : decode cX0_fileOf 74 = .ok (.iadd, 1) := by decide +kernel
theorem dX0_fileOf_75 : decode cX0_fileOf 75 = .ok (.iconst 1, 1) := by decide +kernel
theorem dX0_fileOf_76 : decode cX0_fileOf 76 = .ok (.isub, 1) := by decide +kernel
theorem dX0_fileOf_77 : decode cX0_fileOf 77 = .ok (.aload_n 1, 1) := by decide +kernel
theorem dX0_fileOf_78 : decode cX0_fileOf 78 = .ok (.getfield 24, 3) := by decide +kernel
theorem dX0_fileOf_81 : decode cX0_fileOf 81 = .ok (.invokestatic 55, 3) := by decide +kernel
theorem dX0_fileOf_84 : decode cX0_fileOf 84 = .ok (.putfield 61, 3) := by decide +kernel
theorem dX0_fileOf_87 : decode cX0_fileOf 87 = .ok (.aload_n 0, 1) := by decide +kernel
theorem dX0_fileOf_88 : decode cX0_fileOf 88 = .ok (.aload_n 1, 1) := by decide +kernel
theorem dX0_fileOf_89 : decode cX0_fileOf 89 = .ok (.getfield 31, 3) := by decide +kernel
theorem dX0_fileOf_92 : decode cX0_fileOf 92 = .ok (.iload_n 3, 1) := by decide +kernel
theorem dX0_fileOf_93 : decode cX0_fileOf 93 = .ok (.invokevirtual 64, 3) := by decide +kernel
theorem dX0_fileOf_96 : decode cX0_fileOf 96 = .ok (.iinc 3 1, 3) := by decide +kernel
theorem dX0_fileOf_99 : decode cX0_fileOf 99 = .ok (.goto (-47), 3) := by decide +kernel
theorem dX0_fileOf_102 : decode cX0_fileOf 102 = .ok (.aload_n 0, 1) := by decide +kernel
theorem dX0_fileOf_103 : decode cX0_fileOf 103 = .ok (.iconst 0, 1) := by decide +kernel
theorem dX0_fileOf_104 : decode cX0_fileOf 104 = .ok (.invokevirtual 68, 3) := by decide +kernel
theorem dX0_fileOf_107 : decode cX0_fileOf 107 = .ok (.aload_n 1, 1) := by decide +kernel
theorem dX0_fileOf_108 : decode cX0_fileOf 108 = .ok (.aload_n 0, 1) := by decide +kernel
theorem dX0_fileOf_109 : decode cX0_fileOf 109 = .ok (.getfield 11, 3) := by decide +kernel
theorem dX0_fileOf_112 : decode cX0_fileOf 112 = .ok (.aload_n 0, 1) := by decide +kernel
theorem dX0_fileOf_113 : decode cX0_fileOf 113 = .ok (.getfield 28, 3) := by decide +kernel
theorem dX0_fileOf_116 : decode cX0_fileOf 116 = .ok (.invokestatic 71, 3) := by decide +kernel
theorem dX0_fileOf_119 : decode cX0_fileOf 119 = .ok (.putfield 19, 3) := by decide +kernel
theorem dX0_fileOf_122 : decode cX0_fileOf 122 = .ok (.aload_n 1, 1) := by decide +kernel
theorem dX0_fileOf_123 : decode cX0_fileOf 123 = .ok (.getfield 19, 3) := by decide +kernel
theorem dX0_fileOf_126 : decode cX0_fileOf 126 = .ok (.areturn, 1) := by decide +kernel
theorem dX0_writeConstants_0 : decode cX0_writeConstants 0 = .ok (.aload_n 0, 1) := by decide +kernel
theorem dX0_writeConstants_1 : decode cX0_writeConstants 1 = .ok (.ldc 77, 2) := by decide +kernel
theorem dX0_writeConstants_3 : decode cX0_writeConstants 3 = .ok (.invokevirtual 78, 3) := by decide +kernel
theorem dX0_writeConstants_6 : decode cX0_writeConstants 6 = .ok (.aload_n 0, 1) := by decide +kernel
theorem dX0_writeConstants_7 : decode cX0_writeConstants 7 = .ok (.iconst 0, 1) := by decide +kernel
theorem dX0_writeConstants_8 : decode cX0_writeConstants 8 = .ok (.invokevirtual 68, 3) := by decide +kernel
theorem dX0_writeConstants_11 : decode cX0_writeConstants 11 = .ok (.aload_n 0, 1) := by decide +kernel
theorem dX0_writeConstants_12 : decode cX0_writeConstants 12 = .ok (.bipush 46, 2) := by decide +kernel
theorem dX0_writeConstants_14 : decode cX0_writeConstants 14 = .ok (.invokevirtual 68, 3) := by decide +kernel
theorem dX0_writeConstants_17 : decode cX0_writeConstants 17 = .ok (.aload_n 0, 1) := by decide +kernel
theorem dX0_writeConstants_18 : decode cX0_writeConstants 18 = .ok (.bipush 28, 2) := by decide +kernel
theorem dX0_writeConstants_20 : decode cX0_writeConstants 20 = .ok (.iload_n 2, 1) := by decide +kernel
theorem dX0_writeConstants_21 : decode cX0_writeConstants 21 = .ok (.iadd, 1) := by decide +kernel
theorem dX0_writeConstants_22 : decode cX0_writeConstants 22 = .ok (.invokevirtual 68, 3) := by decide +kernel
theorem dX0_writeConstants_25 : decode cX0_writeConstants 25 = .ok (.aload_n 0, 1) := by decide +kernel
theorem dX0_writeConstants_26 : decode cX0_writeConstants 26 = .ok (.bipush 80, 2) := by decide +kernel
theorem dX0_writeConstants_28 : decode cX0_writeConstants 28 = .ok (.iload_n 1, 1) := by decide +kernel
theorem dX0_writeConstants_29 : decode cX0_writeConstants 29 = .ok (.invokevirtual 81, 3) := by decide +kernel
theorem dX0_writeConstants_32 : decode cX0_writeConstants 32 = .ok (.aload_n 0, 1) := by decide +kernel
theorem dX0_writeConstants_33 : decode cX0_writeConstants 33 = .ok (.iconst 1, 1) := by decide +kernel
theorem dX0_writeConstants_34 : decode cX0_writeConstants 34 = .ok (.invokevirtual 85, 3) := by decide +kernel
theorem dX0_writeConstants_37 : decode cX0_writeConstants 37 = .ok (.aload_n 0, 1) := by decide +kernel
theorem dX0_writeConstants_38 : decode cX0_writeConstants 38 = .ok (.ldc 88, 2) := by decide +kernel
theorem dX0_writeConstants_40 : decode cX0_writeConstants 40 = .ok (.invokevirtual 89, 3) := by decide +kernel
theorem dX0_writeConstants_43 : decode cX0_writeConstants 43 = .ok (.aload_n 0, 1) := by decide +kernel
theorem dX0_writeConstants_44 : decode cX0_writeConstants 44 = .ok (.iconst 3, 1) := by decide +kernel
theorem dX0_writeConstants_45 : decode cX0_writeConstants 45 = .ok (.invokevirtual 85, 3) := by decide +kernel
theorem dX0_writeConstants_48 : decode cX0_writeConstants 48 = .ok (.aload_n 0, 1) := by decide +kernel
theorem dX0_writeConstants_49 : decode cX0_writeConstants 49 = .ok (.ldc 93, 2) := by decide +kernel
theorem dX0_writeConstants_51 : decode cX0_writeConstants 51 = .ok (.invokevirtual 89, 3) := by decide +kernel
theorem dX0_writeConstants_54 : decode cX0_writeConstants 54 = .ok (.aload_n 0, 1) := by decide +kernel
theorem dX0_writeConstants_55 : decode cX0_writeConstants 55 = .ok (.ldc 95, 2) := by decide +kernel
theorem dX0_writeConstants_57 : decode cX0_writeConstants 57 = .ok (.invokevirtual 89, 3) := by decide +kernel
theorem dX0_writeConstants_60 : decode cX0_writeConstants 60 = .ok (.aload_n 0, 1) := by decide +kernel
theorem dX0_writeConstants_61 : decode cX0_writeConstants 61 = .ok (.bipush 12, 2) := by decide +kernel
theorem dX0_writeConstants_63 : decode cX0_writeConstants 63 = .ok (.iconst 5, 1) := by decide +kernel
theorem dX0_writeConstants_64 : decode cX0_writeConstants 64 = .ok (.bipush 6, 2) := by decide +kernel
theorem dX0_writeConstants_66 : decode cX0_writeConstants 66 = .ok (.invokevirtual 96, 3) := by decide +kernel
theorem dX0_writeConstants_69 : decode cX0_writeConstants 69 = .ok (.aload_n 0, 1) := by decide +kernel
theorem dX0_writeConstants_70 : decode cX0_writeConstants 70 = .ok (.bipush 9, 2) := by decide +kernel
theorem dX0_writeConstants_72 : decode cX0_writeConstants 72 = .ok (.iconst 2, 1) := by decide +kernel
theorem dX0_writeConstants_73 : decode cX0_writeConstants 73 = .ok (.bipush 7, 2) := by decide +kernel
theorem dX0_writeConstants_75 : decode cX0_writeConstants 75 = .ok (.invokevirtual 96, 3) := by decide +kernel
theorem dX0_writeConstants_78 : decode cX0_writeConstants 78 = .ok (.aload_n 0, 1) := by decide +kernel
theorem dX0_writeConstants_79 : decode cX0_writeConstants 79 = .ok (.ldc 100, 2) := by decide +kernel
theorem dX0_writeConstants_81 : decode cX0_writeConstants 81 = .ok (.invokevirtual 89, 3) := by decide +kernel
theorem dX0_writeConstants_84 : decode cX0_writeConstants 84 = .ok (.aload_n 0, 1) := by decide +kernel
theorem dX0_writeConstants_85 : decode cX0_writeConstants 85 = .ok (.bipush 9, 2) := by decide +kernel
theorem dX0_writeConstants_87 : decode cX0_writeConstants 87 = .ok (.invokevirtual 85, 3) := by decide +kernel
theorem dX0_writeConstants_90 : decode cX0_writeConstants 90 = .ok (.aload_n 0, 1) := by decide +kernel
theorem dX0_writeConstants_91 : decode cX0_writeConstants 91 = .ok (.ldc 102, 2) := by decide +kernel
theorem dX0_writeConstants_93 : decode cX0_writeConstants 93 = .ok (.invokevirtual 89, 3) := by decide +kernel
theorem dX0_writeConstants_96 : decode cX0_writeConstants 96 = .ok (.aload_n 0, 1) := by decide +kernel
theorem dX0_writeConstants_97 : decode cX0_writeConstants 97 = .ok (.ldc 104, 2) := by decide +kernel
theorem dX0_writeConstants_99 : decode cX0_writeConstants 99 = .ok (.invokevirtual 89, 3) := by decide +kernel
theorem dX0_writeConstants_102 : decode cX0_writeConstants 102 = .ok (.aload_n 0, 1) := by decide +kernel
theorem dX0_writeConstants_103 : decode cX0_writeConstants 103 = .ok (.bipush 12, 2) := by decide +kernel
theorem dX0_writeConstants_105 : decode cX0_writeConstants 105 = .ok (.bipush 11, 2) := by decide +kernel
theorem dX0_writeConstants_107 : decode cX0_writeConstants 107 = .ok (.bipush 12, 2) := by decide +kernel
theorem dX0_writeConstants_109 : decode cX0_writeConstants 109 = .ok (.invokevirtual 96, 3) := by decide +kernel
theorem dX0_writeConstants_112 : decode cX0_writeConstants 112 = .ok (.aload_n 0, 1) := by decide +kernel
theorem dX0_writeConstants_113 : decode cX0_writeConstants 113 = .ok (.bipush 10, 2) := by decide +kernel
theorem dX0_writeConstants_115 : decode cX0_writeConstants 115 = .ok (.bipush 10, 2) := by decide +kernel
theorem dX0_writeConstants_117 : decode cX0_writeConstants 117 = .ok (.bipush 13, 2) := by decide +kernel
theorem dX0_writeConstants_119 : decode cX0_writeConstants 119 = .ok (.invokevirtual 96, 3) := by decide +kernel
theorem dX0_writeConstants_122 : decode cX0_writeConstants 122 = .ok (.aload_n 0, 1) := by decide +kernel
theorem dX0_writeConstants_123 : decode cX0_writeConstants 123 = .ok (.ldc 105, 2) := by decide +kernel
theorem dX0_writeConstants_125 : decode cX0_writeConstants 125 = .ok (.invokevirtual 89, 3) := by decide +kernel
theorem dX0_writeConstants_128 : decode cX0_writeConstants 128 = .ok (.aload_n 0, 1) := by decide +kernel
theorem dX0_writeConstants_129 : decode cX0_writeConstants 129 = .ok (.bipush 12, 2) := by decide +kernel
theorem dX0_writeConstants_131 : decode cX0_writeConstants 131 = .ok (.bipush 15, 2) := by decide +kernel
theorem dX0_writeConstants_133 : decode cX0_writeConstants 133 = .ok (.bipush 12, 2) := by decide +kernel
theorem dX0_writeConstants_135 : decode cX0_writeConstants 135 = .ok (.invokevirtual 96, 3) := by decide +kernel
theorem dX0_writeConstants_138 : decode cX0_writeConstants 138 = .ok (.aload_n 0, 1) := by decide +kernel
theorem dX0_writeConstants_139 : decode cX0_writeConstants 139 = .ok (.bipush 10, 2) := by decide +kernel
theorem dX0_writeConstants_141 : decode cX0_writeConstants 141 = .ok (.bipush 10, 2) := by decide +kernel
theorem dX0_writeConstants_143 : decode cX0_writeConstants 143 = .ok (.bipush 16, 2) := by decide +kernel
theorem dX0_writeConstants_145 : decode cX0_writeConstants 145 = .ok (.invokevirtual 96, 3) := by decide +kernel
theorem dX0_writeConstants_148 : decode cX0_writeConstants 148 = .ok (.aload_n 0, 1) := by decide +kernel
theorem dX0_writeConstants_149 : decode cX0_writeConstants 149 = .ok (.ldc 107, 2) := by decide +kernel
theorem dX0_writeConstants_151 : decode cX0_writeConstants 151 = .ok (.invokevirtual 89, 3) := by decide +kernel
theorem dX0_writeConstants_154 : decode cX0_writeConstants 154 = .ok (.aload_n 0, 1) := by decide +kernel
theorem dX0_writeConstants_155 : decode cX0_writeConstants 155 = .ok (.bipush 12, 2) := by decide +kernel
theorem dX0_writeConstants_157 : decode cX0_writeConstants 157 = .ok (.bipush 18, 2) := by decide +kernel
theorem dX0_writeConstants_159 : decode cX0_writeConstants 159 = .ok (.bipush 12, 2) := by decide +kernel
theorem dX0_writeConstants_161 : decode cX0_writeConstants 161 = .ok (.invokevirtual 96, 3) := by decide +kernel
theorem dX0_writeConstants_164 : decode cX0_writeConstants 164 = .ok (.aload_n 0, 1) := by decide +kernel
theorem dX0_writeConstants_165 : decode cX0_writeConstants 165 = .ok (.bipush 10, 2) := by decide +kernel
theorem dX0_writeConstants_167 : decode cX0_writeConstants 167 = .ok (.bipush 10, 2) := by decide +kernel
theorem dX0_writeConstants_169 : decode cX0_writeConstants 169 = .ok (.bipush 19, 2) := by decide +kernel
theorem dX0_writeConstants_171 : decode cX0_writeConstants 171 = .ok (.invokevirtual 96, 3) := by decide +kernel
theorem dX0_writeConstants_174 : decode cX0_writeConstants 174 = .ok (.aload_n 0, 1) := by decide +kernel
theorem dX0_writeConstants_175 : decode cX0_writeConstants 175 = .ok (.ldc 109, 2) := by decide +kernel
theorem dX0_writeConstants_177 : decode cX0_writeConstants 177 = .ok (.invokevirtual 89, 3) := by decide +kernel
theorem dX0_writeConstants_180 : decode cX0_writeConstants 180 = .ok (.aload_n 0, 1) := by decide +kernel
theorem dX0_writeConstants_181 : decode cX0_writeConstants 181 = .ok (.bipush 12, 2) := by decide +kernel
theorem dX0_writeConstants_183 : decode cX0_writeConstants 183 = .ok (.bipush 21, 2) := by decide +kernel
theorem dX0_writeConstants_185 : decode cX0_writeConstants 185 = .ok (.bipush 12, 2) := by decide +kernel
theorem dX0_writeConstants_187 : decode cX0_writeConstants 187 = .ok (.invokevirtual 96, 3) := by decide +kernel
theorem dX0_writeConstants_190 : decode cX0_writeConstants 190 = .ok (.aload_n 0, 1) := by decide +kernel
theorem dX0_writeConstants_191 : decode cX0_writeConstants 191 = .ok (.bipush 10, 2) := by decide +kernel
theorem dX0_writeConstants_193 : decode cX0_writeConstants 193 = .ok (.bipush 10, 2) := by decide +kernel
theorem dX0_writeConstants_195 : decode cX0_writeConstants 195 = .ok (.bipush 22, 2) := by decide +kernel
theorem dX0_writeConstants_197 : decode cX0_writeConstants 197 = .ok (.invokevirtual 96, 3) := by decide +kernel
theorem dX0_writeConstants_200 : decode cX0_writeConstants 200 = .ok (.aload_n 0, 1) := by decide +kernel
theorem dX0_writeConstants_201 : decode cX0_writeConstants 201 = .ok (.ldc 111, 2) := by decide +kernel
theorem dX0_writeConstants_203 : decode cX0_writeConstants 203 = .ok (.invokevirtual 89, 3) := by decide +kernel
theorem dX0_writeConstants_206 : decode cX0_writeConstants 206 = .ok (.aload_n 0, 1) := by decide +kernel
theorem dX0_writeConstants_207 : decode cX0_writeConstants 207 = .ok (.ldc 113, 2) := by decide +kernel
theorem dX0_writeConstants_209 : decode cX0_writeConstants 209 = .ok (.invokevirtual 89, 3) := by decide +kernel
theorem dX0_writeConstants_212 : decode cX0_writeConstants 212 = .ok (.aload_n 0, 1) := by decide +kernel
theorem dX0_writeConstants_213 : decode cX0_writeConstants 213 = .ok (.ldc 115, 2) := by decide +kernel
theorem dX0_writeConstants_215 : decode cX0_writeConstants 215 = .ok (.invokevirtual 89, 3) := by decide +kernel
theorem dX0_writeConstants_218 : decode cX0_writeConstants 218 = .ok (.aload_n 0, 1) := by decide +kernel
theorem dX0_writeConstants_219 : decode cX0_writeConstants 219 = .ok (.ldc 117, 2) := by decide +kernel
theorem dX0_writeConstants_221 : decode cX0_writeConstants 221 = .ok (.invokevirtual 89, 3) := by decide +kernel
theorem dX0_writeConstants_224 : decode cX0_writeConstants 224 = .ok (.iconst 0, 1) := by decide +kernel
theorem dX0_writeConstants_225 : decode cX0_writeConstants 225 = .ok (.istore_n 3, 1) := by decide +kernel
theorem dX0_writeConstants_226 : decode cX0_writeConstants 226 = .ok (.iload_n 3, 1) := by decide +kernel
theorem dX0_writeConstants_227 : decode cX0_writeConstants 227 = .ok (.iload_n 2, 1) := by decide +kernel
theorem dX0_writeConstants_228 : decode cX0_writeConstants 228 = .ok (.if_icmp .ge 16, 3) := by decide +kernel
theorem dX0_writeConstants_231 : decode cX0_writeConstants 231 = .ok (.aload_n 0, 1) := by decide +kernel
theorem dX0_writeConstants_232 : decode cX0_writeConstants 232 = .ok (.bipush 109, 2) := by decide +kernel
theorem dX0_writeConstants_234 : decode cX0_writeConstants 234 = .ok (.iload_n 3, 1) := by decide +kernel
theorem dX0_writeConstants_235 : decode cX0_writeConstants 235 = .ok (.invokevirtual 81, 3) := by decide +kernel
theorem dX0_writeConstants_238 : decode cX0_writeConstants 238 = .ok (.iinc 3 1, 3) := by decide +kernel
theorem dX0_writeConstants_241 : decode cX0_writeConstants 241 = .ok (.goto (-15), 3) := by decide +kernel
theorem dX0_writeConstants_244 : decode cX0_writeConstants 244 = .ok (.return_, 1) := by decide +kernel
theorem dX0_writeFace_0 : decode cX0_writeFace 0 = .ok (.aload_n 0, 1) := by decide +kernel
theorem dX0_writeFace_1 : decode cX0_writeFace 1 = .ok (.bipush 33, 2) := by decide +kernel
theorem dX0_writeFace_3 : decode cX0_writeFace 3 = .ok (.invokevirtual 68, 3) := by decide +kernel
theorem dX0_writeFace_6 : decode cX0_writeFace 6 = .ok (.aload_n 0, 1) := by decide +kernel
theorem dX0_writeFace_7 : decode cX0_writeFace 7 = .ok (.iconst 2, 1) := by decide +kernel
theorem dX0_writeFace_8 : decode cX0_writeFace 8 = .ok (.invokevirtual 68, 3) := by decide +kernel
theorem dX0_writeFace_11 : decode cX0_writeFace 11 = .ok (.aload_n 0, 1) := by decide +kernel
theorem dX0_writeFace_12 : decode cX0_writeFace 12 = .ok (.iconst 4, 1) := by decide +kernel
theorem dX0_writeFace_13 : decode cX0_writeFace 13 = .ok (.invokevirtual 68, 3) := by decide +kernel
theorem dX0_writeFace_16 : decode cX0_writeFace 16 = .ok (.aload_n 0, 1) := by decide +kernel
theorem dX0_writeFace_17 : decode cX0_writeFace 17 = .ok (.iconst 0, 1) := by decide +kernel
theorem dX0_writeFace_18 : decode cX0_writeFace 18 = .ok (.invokevirtual 68, 3) := by decide +kernel
theorem dX0_writeFace_21 : decode cX0_writeFace 21 = .ok (.aload_n 0, 1) := by decide +kernel
theorem dX0_writeFace_22 : decode cX0_writeFace 22 = .ok (.iconst 1, 1) := by decide +kernel
theorem dX0_writeFace_23 : decode cX0_writeFace 23 = .ok (.invokevirtual 68, 3) := by decide +kernel
theorem dX0_writeFace_26 : decode cX0_writeFace 26 = .ok (.aload_n 0, 1) := by decide +kernel
theorem dX0_writeFace_27 : decode cX0_writeFace 27 = .ok (.bipush 8, 2) := by decide +kernel
theorem dX0_writeFace_29 : decode cX0_writeFace 29 = .ok (.invokevirtual 68, 3) := by decide +kernel
theorem dX0_writeFace_32 : decode cX0_writeFace 32 = .ok (.aload_n 0, 1) := by decide +kernel
theorem dX0_writeFace_33 : decode cX0_writeFace 33 = .ok (.iconst 5, 1) := by decide +kernel
theorem dX0_writeFace_34 : decode cX0_writeFace 34 = .ok (.invokevirtual 68, 3) := by decide +kernel
theorem dX0_writeFace_37 : decode cX0_writeFace 37 = .ok (.aload_n 0, 1) := by decide +kernel
theorem dX0_writeFace_38 : decode cX0_writeFace 38 = .ok (.bipush 6, 2) := by decide +kernel
theorem dX0_writeFace_40 : decode cX0_writeFace 40 = .ok (.invokevirtual 68, 3) := by decide +kernel
theorem dX0_writeFace_43 : decode cX0_writeFace 43 = .ok (.aload_n 0, 1) := by decide +kernel
theorem dX0_writeFace_44 : decode cX0_writeFace 44 = .ok (.iconst 0, 1) := by decide +kernel
theorem dX0_writeFace_45 : decode cX0_writeFace 45 = .ok (.invokevirtual 68, 3) := by decide +kernel
theorem dX0_writeFace_48 : decode cX0_writeFace 48 = .ok (.aload_n 0, 1) := by decide +kernel
theorem dX0_writeFace_49 : decode cX0_writeFace 49 = .ok (.iconst 1, 1) := by decide +kernel
theorem dX0_writeFace_50 : decode cX0_writeFace 50 = .ok (.iload_n 1, 1) := by decide +kernel
theorem dX0_writeFace_51 : decode cX0_writeFace 51 = .ok (.iadd, 1) := by decide +kernel
theorem dX0_writeFace_52 : decode cX0_writeFace 52 = .ok (.invokevirtual 68, 3) := by decide +kernel
theorem dX0_writeFace_55 : decode cX0_writeFace 55 = .ok (.return_, 1) := by decide +kernel
theorem dX0_writeStart_0 : decode cX0_writeStart 0 = .ok (.aload_n 1, 1) := by decide +kernel
theorem dX0_writeStart_1 : decode cX0_writeStart 1 = .ok (.getfield 118, 3) := by decide +kernel
theorem dX0_writeStart_4 : decode cX0_writeStart 4 = .ok (.ifCond .eq 8, 3) := by decide +kernel
theorem dX0_writeStart_7 : decode cX0_writeStart 7 = .ok (.bipush 12, 2) := by decide +kernel
theorem dX0_writeStart_9 : decode cX0_writeStart 9 = .ok (.goto 5, 3) := by decide +kernel
theorem dX0_writeStart_12 : decode cX0_writeStart 12 = .ok (.bipush 8, 2) := by decide +kernel
theorem dX0_writeStart_14 : decode cX0_writeStart 14 = .ok (.istore_n 2, 1) := by decide +kernel
theorem dX0_writeStart_15 : decode cX0_writeStart 15 = .ok (.aload_n 0, 1) := by decide +kernel
theorem dX0_writeStart_16 : decode cX0_writeStart 16 = .ok (.bipush 26, 2) := by decide +kernel
theorem dX0_writeStart_18 : decode cX0_writeStart 18 = .ok (.bipush 27, 2) := by decide +kernel
theorem dX0_writeStart_20 : decode cX0_writeStart 20 = .ok (.iconst 2, 1) := by decide +kernel
theorem dX0_writeStart_21 : decode cX0_writeStart 21 = .ok (.iconst 0, 1) := by decide +kernel
theorem dX0_writeStart_22 : decode cX0_writeStart 22 = .ok (.iload_n 2, 1) := by decide +kernel
theorem dX0_writeStart_23 : decode cX0_writeStart 23 = .ok (.invokevirtual 122, 3) := by decide +kernel
theorem dX0_writeStart_26 : decode cX0_writeStart 26 = .ok (.aload_n 1, 1) := by decide +kernel
theorem dX0_writeStart_27 : decode cX0_writeStart 27 = .ok (.getfield 118, 3) := by decide +kernel
theorem dX0_writeStart_30 : decode cX0_writeStart 30 = .ok (.ifCond .eq 25, 3) := by decide +kernel
theorem dX0_writeStart_33 : decode cX0_writeStart 33 = .ok (.aload_n 0, 1) := by decide +kernel
theorem dX0_writeStart_34 : decode cX0_writeStart 34 = .ok (.iconst 3, 1) := by decide +kernel
theorem dX0_writeStart_35 : decode cX0_writeStart 35 = .ok (.invokevirtual 126, 3) := by decide +kernel
theorem dX0_writeStart_38 : decode cX0_writeStart 38 = .ok (.aload_n 0, 1) := by decide +kernel
theorem dX0_writeStart_39 : decode cX0_writeStart 39 = .ok (.iconst 3, 1) := by decide +kernel
theorem dX0_writeStart_40 : decode cX0_writeStart 40 = .ok (.invokevirtual 126, 3) := by decide +kernel
theorem dX0_writeStart_43 : decode cX0_writeStart 43 = .ok (.aload_n 0, 1) := by decide +kernel
theorem dX0_writeStart_44 : decode cX0_writeStart 44 = .ok (.bipush 108, 2) := by decide +kernel
theorem dX0_writeStart_46 : decode cX0_writeStart 46 = .ok (.invokevirtual 126, 3) := by decide +kernel
theorem dX0_writeStart_49 : decode cX0_writeStart 49 = .ok (.aload_n 0, 1) := by decide +kernel
theorem dX0_writeStart_50 : decode cX0_writeStart 50 = .ok (.bipush 87, 2) := by decide +kernel
theorem dX0_writeStart_52 : decode cX0_writeStart 52 = .ok (.invokevirtual 126, 3) := by decide +kernel
theorem dX0_writeStart_55 : decode cX0_writeStart 55 = .ok (.aload_n 0, 1) := by decide +kernel
theorem dX0_writeStart_56 : decode cX0_writeStart 56 = .ok (.aload_n 1, 1) := by decide +kernel
theorem dX0_writeStart_57 : decode cX0_writeStart 57 = .ok (.getfield 129, 3) := by decide +kernel
theorem dX0_writeStart_60 : decode cX0_writeStart 60 = .ok (.invokevirtual 131, 3) := by decide +kernel
theorem dX0_writeStart_63 : decode cX0_writeStart 63 = .ok (.aload_n 0, 1) := by decide +kernel
theorem dX0_writeStart_64 : decode cX0_writeStart 64 = .ok (.sipush 188, 3) := by decide +kernel
theorem dX0_writeStart_67 : decode cX0_writeStart 67 = .ok (.invokevirtual 126, 3) := by decide +kernel
theorem dX0_writeStart_70 : decode cX0_writeStart 70 = .ok (.aload_n 0, 1) := by decide +kernel
theorem dX0_writeStart_71 : decode cX0_writeStart 71 = .ok (.bipush 8, 2) := by decide +kernel
theorem dX0_writeStart_73 : decode cX0_writeStart 73 = .ok (.invokevirtual 126, 3) := by decide +kernel
theorem dX0_writeStart_76 : decode cX0_writeStart 76 = .ok (.aload_n 0, 1) := by decide +kernel
theorem dX0_writeStart_77 : decode cX0_writeStart 77 = .ok (.sipush 179, 3) := by decide +kernel
theorem dX0_writeStart_80 : decode cX0_writeStart 80 = .ok (.bipush 8, 2) := by decide +kernel
theorem dX0_writeStart_82 : decode cX0_writeStart 82 = .ok (.invokevirtual 134, 3) := by decide +kernel
theorem dX0_writeStart_85 : decode cX0_writeStart 85 = .ok (.aload_n 0, 1) := by decide +kernel
theorem dX0_writeStart_86 : decode cX0_writeStart 86 = .ok (.sipush 177, 3) := by decide +kernel
theorem dX0_writeStart_89 : decode cX0_writeStart 89 = .ok (.invokevirtual 126, 3) := by decide +kernel
theorem dX0_writeStart_92 : decode cX0_writeStart 92 = .ok (.aload_n 0, 1) := by decide +kernel
theorem dX0_writeStart_93 : decode cX0_writeStart 93 = .ok (.invokevirtual 137, 3) := by decide +kernel
theorem dX0_writeStart_96 : decode cX0_writeStart 96 = .ok (.return_, 1) := by decide +kernel
theorem dX0_writeMember_0 : decode cX0_writeMember 0 = .ok (.aload_n 0, 1) := by decide +kernel
theorem dX0_writeMember_1 : decode cX0_writeMember 1 = .ok (.getfield 61, 3) := by decide +kernel
theorem dX0_writeMember_4 : decode cX0_writeMember 4 = .ok (.aload_n 0, 1) := by decide +kernel
theorem dX0_writeMember_5 : decode cX0_writeMember 5 = .ok (.getfield 52, 3) := by decide +kernel
theorem dX0_writeMember_8 : decode cX0_writeMember 8 = .ok (.isub, 1) := by decide +kernel
theorem dX0_writeMember_9 : decode cX0_writeMember 9 = .ok (.iconst 1, 1) := by decide +kernel
theorem dX0_writeMember_10 : decode cX0_writeMember 10 = .ok (.iadd, 1) := by decide +kernel
theorem dX0_writeMember_11 : decode cX0_writeMember 11 = .ok (.istore_n 3, 1) := by decide +kernel
theorem dX0_writeMember_12 : decode cX0_writeMember 12 = .ok (.aload_n 0, 1) := by decide +kernel
theorem dX0_writeMember_13 : decode cX0_writeMember 13 = .ok (.aload_n 1, 1) := by decide +kernel
theorem dX0_writeMember_14 : decode cX0_writeMember 14 = .ok (.bipush 16, 2) := by decide +kernel
theorem dX0_writeMember_16 : decode cX0_writeMember 16 = .ok (.iconst 4, 1) := by decide +kernel
theorem dX0_writeMember_17 : decode cX0_writeMember 17 = .ok (.iload_n 3, 1) := by decide +kernel
theorem dX0_writeMember_18 : decode cX0_writeMember 18 = .ok (.imul, 1) := by decide +kernel
theorem dX0_writeMember_19 : decode cX0_writeMember 19 = .ok (.iadd, 1) := by decide +kernel
theorem dX0_writeMember_20 : decode cX0_writeMember 20 = .ok (.invokevirtual 140, 3) := by decide +kernel
theorem dX0_writeMember_23 : decode cX0_writeMember 23 = .ok (.istore 4, 2) := by decide +kernel
theorem dX0_writeMember_25 : decode cX0_writeMember 25 = .ok (.aload_n 0, 1) := by decide +kernel
theorem dX0_writeMember_26 : decode cX0_writeMember 26 = .ok (.bipush 28, 2) := by decide +kernel
theorem dX0_writeMember_28 : decode cX0_writeMember 28 = .ok (.iload_n 2, 1) := by decide +kernel
theorem dX0_writeMember_29 : decode cX0_writeMember 29 = .ok (.iadd, 1) := by decide +kernel
theorem dX0_writeMember_30 : decode cX0_writeMember 30 = .ok (.bipush 25, 2) := by decide +kernel
theorem dX0_writeMember_32 : decode cX0_writeMember 32 = .ok (.iconst 5, 1) := by decide +kernel
theorem dX0_writeMember_33 : decode cX0_writeMember 33 = .ok (.iconst 1, 1) := by decide +kernel
theorem dX0_writeMember_34 : decode cX0_writeMember 34 = .ok (.iload 4, 2) := by decide +kernel
theorem dX0_writeMember_36 : decode cX0_writeMember 36 = .ok (.iconst 4, 1) := by decide +kernel
theorem dX0_writeMember_37 : decode cX0_writeMember 37 = .ok (.iadd, 1) := by decide +kernel
theorem dX0_writeMember_38 : decode cX0_writeMember 38 = .ok (.invokevirtual 122, 3) := by decide +kernel
theorem dX0_writeMember_41 : decode cX0_writeMember 41 = .ok (.aload_n 0, 1) := by decide +kernel
theorem dX0_writeMember_42 : decode cX0_writeMember 42 = .ok (.bipush 26, 2) := by decide +kernel
theorem dX0_writeMember_44 : decode cX0_writeMember 44 = .ok (.invokevirtual 126, 3) := by decide +kernel
theorem dX0_writeMember_47 : decode cX0_writeMember 47 = .ok (.aload_n 0, 1) := by decide +kernel
theorem dX0_writeMember_48 : decode cX0_writeMember 48 = .ok (.sipush 170, 3) := by decide +kernel
theorem dX0_writeMember_51 : decode cX0_writeMember 51 = .ok (.invokevirtual 126, 3) := by decide +kernel
theorem dX0_writeMember_54 : decode cX0_writeMember 54 = .ok (.aload_n 0, 1) := by decide +kernel
theorem dX0_writeMember_55 : decode cX0_writeMember 55 = .ok (.iconst 0, 1) := by decide +kernel
theorem dX0_writeMember_56 : decode cX0_writeMember 56 = .ok (.invokevirtual 68, 3) := by decide +kernel
theorem dX0_writeMember_59 : decode cX0_writeMember 59 = .ok (.aload_n 0, 1) := by decide +kernel
theorem dX0_writeMember_60 : decode cX0_writeMember 60 = .ok (.iload 4, 2) := by decide +kernel
theorem dX0_writeMember_62 : decode cX0_writeMember 62 = .ok (.iconst 1, 1) := by decide +kernel
theorem dX0_writeMember_63 : decode cX0_writeMember 63 = .ok (.isub, 1) := by decide +kernel
theorem dX0_writeMember_64 : decode cX0_writeMember 64 = .ok (.invokevirtual 78, 3) := by decide +kernel
theorem dX0_writeMember_67 : decode cX0_writeMember 67 = .ok (.aload_n 0, 1) := by decide +kernel
theorem dX0_writeMember_68 : decode cX0_writeMember 68 = .ok (.aload_n 0, 1) := by decide +kernel
theorem dX0_writeMember_69 : decode cX0_writeMember 69 = .ok (.getfield 52, 3) := by decide +kernel
theorem dX0_writeMember_72 : decode cX0_writeMember 72 = .ok (.invokevirtual 78, 3) := by decide +kernel
theorem dX0_writeMember_75 : decode cX0_writeMember 75 = .ok (.aload_n 0, 1) := by decide +kernel
theorem dX0_writeMember_76 : decode cX0_writeMember 76 = .ok (.aload_n 0, 1) := by decide +kernel
theorem dX0_writeMember_77 : decode cX0_writeMember 77 = .ok (.getfield 61, 3) := by decide +kernel
theorem dX0_writeMember_80 : decode cX0_writeMember 80 = .ok (.invokevirtual 78, 3) := by decide +kernel
theorem dX0_writeMember_83 : decode cX0_writeMember 83 = .ok (.iconst 0, 1) := by decide +kernel
theorem dX0_writeMember_84 : decode cX0_writeMember 84 = .ok (.istore 5, 2) := by decide +kernel
theorem dX0_writeMember_86 : decode cX0_writeMember 86 = .ok (.iload 5, 2) := by decide +kernel
theorem dX0_writeMember_88 : decode cX0_writeMember 88 = .ok (.iload_n 3, 1) := by decide +kernel
theorem dX0_writeMember_89 : decode cX0_writeMember 89 = .ok (.if_icmp .ge 32, 3) := by decide +kernel
theorem dX0_writeMember_92 : decode cX0_writeMember 92 = .ok (.iload 5, 2) := by decide +kernel
theorem dX0_writeMember_94 : decode cX0_writeMember 94 = .ok (.aload_n 0, 1) := by decide +kernel
theorem dX0_writeMember_95 : decode cX0_writeMember 95 = .ok (.getfield 15, 3) := by decide +kernel
theorem dX0_writeMember_98 : decode cX0_writeMember 98 = .ok (.arraylength, 1) := by decide +kernel
theorem dX0_writeMember_99 : decode cX0_writeMember 99 = .ok (.if_icmp .ge 22, 3) := by decide +kernel
theorem dX0_writeMember_102 : decode cX0_writeMember 102 = .ok (.aload_n 0, 1) := by decide +kernel
theorem dX0_writeMember_103 : decode cX0_writeMember 103 = .ok (.aload_n 0, 1) := by decide +kernel
theorem dX0_writeMember_104 : decode cX0_writeMember 104 = .ok (.getfield 15, 3) := by decide +kernel
theorem dX0_writeMember_107 : decode cX0_writeMember 107 = .ok (.iload 5, 2) := by decide +kernel
theorem dX0_writeMember_109 : decode cX0_writeMember 109 = .ok (.iaload, 1) := by decide +kernel
theorem dX0_writeMember_110 : decode cX0_writeMember 110 = .ok (.iconst 1, 1) := by decide +kernel
theorem dX0_writeMember_111 : decode cX0_writeMember 111 = .ok (.isub, 1) := by decide +kernel
theorem dX0_writeMember_112 : decode cX0_writeMember 112 = .ok (.invokevirtual 78, 3) := by decide +kernel
theorem dX0_writeMember_115 : decode cX0_writeMember 115 = .ok (.iinc 5 1, 3) := by decide +kernel
theorem dX0_writeMember_118 : decode cX0_writeMember 118 = .ok (.goto (-32), 3) := by decide +kernel
theorem dX0_writeMember_121 : decode cX0_writeMember 121 = .ok (.iconst 0, 1) := by decide +kernel
theorem dX0_writeMember_122 : decode cX0_writeMember 122 = .ok (.istore 5, 2) := by decide +kernel
theorem dX0_writeMember_124 : decode cX0_writeMember 124 = .ok (.iload 5, 2) := by decide +kernel
theorem dX0_writeMember_126 : decode cX0_writeMember 126 = .ok (.iload_n 3, 1) := by decide +kernel
theorem dX0_writeMember_127 : decode cX0_writeMember 127 = .ok (.if_icmp .ge 50, 3) := by decide +kernel
theorem dX0_writeMember_130 : decode cX0_writeMember 130 = .ok (.iload 5, 2) := by decide +kernel
theorem dX0_writeMember_132 : decode cX0_writeMember 132 = .ok (.aload_n 0, 1) := by decide +kernel
theorem dX0_writeMember_133 : decode cX0_writeMember 133 = .ok (.getfield 15, 3) := by decide +kernel
theorem dX0_writeMember_136 : decode cX0_writeMember 136 = .ok (.arraylength, 1) := by decide +kernel
theorem dX0_writeMember_137 : decode cX0_writeMember 137 = .ok (.if_icmp .ge 40, 3) := by decide +kernel
theorem dX0_writeMember_140 : decode cX0_writeMember 140 = .ok (.aload_n 1, 1) := by decide +kernel
theorem dX0_writeMember_141 : decode cX0_writeMember 141 = .ok (.aload_n 0, 1) := by decide +kernel
theorem dX0_writeMember_142 : decode cX0_writeMember 142 = .ok (.getfield 52, 3) := by decide +kernel
theorem dX0_writeMember_145 : decode cX0_writeMember 145 = .ok (.iload 5, 2) := by decide +kernel
theorem dX0_writeMember_147 : decode cX0_writeMember 147 = .ok (.iadd, 1) := by decide +kernel
theorem dX0_writeMember_148 : decode cX0_writeMember 148 = .ok (.invokevirtual 144, 3) := by decide +kernel
theorem dX0_writeMember_151 : decode cX0_writeMember 151 = .ok (.astore 6, 2) := by decide +kernel
theorem dX0_writeMember_153 : decode cX0_writeMember 153 = .ok (.aload 6, 2) := by decide +kernel
theorem dX0_writeMember_155 : decode cX0_writeMember 155 = .ok (.ifnull 16, 3) := by decide +kernel
theorem dX0_writeMember_158 : decode cX0_writeMember 158 = .ok (.aload_n 0, 1) := by decide +kernel
theorem dX0_writeMember_159 : decode cX0_writeMember 159 = .ok (.aload 6, 2) := by decide +kernel
theorem dX0_writeMember_161 : decode cX0_writeMember 161 = .ok (.aload_n 0, 1) := by decide +kernel
theorem dX0_writeMember_162 : decode cX0_writeMember 162 = .ok (.getfield 15, 3) := by decide +kernel
theorem dX0_writeMember_165 : decode cX0_writeMember 165 = .ok (.iload 5, 2) := by decide +kernel
theorem dX0_writeMember_167 : decode cX0_writeMember 167 = .ok (.iaload, 1) := by decide +kernel
theorem dX0_writeMember_168 : decode cX0_writeMember 168 = .ok (.invokevirtual 148, 3) := by decide +kernel
theorem dX0_writeMember_171 : decode cX0_writeMember 171 = .ok (.iinc 5 1, 3) := by decide +kernel
theorem dX0_writeMember_174 : decode cX0_writeMember 174 = .ok (.goto (-50), 3) := by decide +kernel
theorem dX0_writeMember_177 : decode cX0_writeMember 177 = .ok (.aload_n 0, 1) := by decide +kernel
theorem dX0_writeMember_178 : decode cX0_writeMember 178 = .ok (.bipush 17, 2) := by decide +kernel
theorem dX0_writeMember_180 : decode cX0_writeMember 180 = .ok (.aload_n 0, 1) := by decide +kernel
theorem dX0_writeMember_181 : decode cX0_writeMember 181 = .ok (.getfield 61, 3) := by decide +kernel
theorem dX0_writeMember_184 : decode cX0_writeMember 184 = .ok (.iconst 1, 1) := by decide +kernel
theorem dX0_writeMember_185 : decode cX0_writeMember 185 = .ok (.iadd, 1) := by decide +kernel
theorem dX0_writeMember_186 : decode cX0_writeMember 186 = .ok (.invokevirtual 134, 3) := by decide +kernel
theorem dX0_writeMember_189 : decode cX0_writeMember 189 = .ok (.aload_n 0, 1) := by decide +kernel
theorem dX0_writeMember_190 : decode cX0_writeMember 190 = .ok (.sipush 172, 3) := by decide +kernel
theorem dX0_writeMember_193 : decode cX0_writeMember 193 = .ok (.invokevirtual 126, 3) := by decide +kernel
theorem dX0_writeMember_196 : decode cX0_writeMember 196 = .ok (.aload_n 0, 1) := by decide +kernel
theorem dX0_writeMember_197 : decode cX0_writeMember 197 = .ok (.invokevirtual 137, 3) := by decide +kernel
theorem dX0_writeMember_200 : decode cX0_writeMember 200 = .ok (.return_, 1) := by decide +kernel
theorem dX0_layOutRows_0 : decode cX0_layOutRows 0 = .ok (.iload_n 2, 1) := by decide +kernel
theorem dX0_layOutRows_1 : decode cX0_layOutRows 1 = .ok (.istore_n 3, 1) := by decide +kernel
theorem dX0_layOutRows_2 : decode cX0_layOutRows 2 = .ok (.iconst 0, 1) := by decide +kernel
theorem dX0_layOutRows_3 : decode cX0_layOutRows 3 = .ok (.istore 4, 2) := by decide +kernel
theorem dX0_layOutRows_5 : decode cX0_layOutRows 5 = .ok (.iload 4, 2) := by decide +kernel
theorem dX0_layOutRows_7 : decode cX0_layOutRows 7 = .ok (.aload_n 0, 1) := by decide +kernel
theorem dX0_layOutRows_8 : decode cX0_layOutRows 8 = .ok (.getfield 61, 3) := by decide +kernel
theorem dX0_layOutRows_11 : decode cX0_layOutRows 11 = .ok (.aload_n 0, 1) := by decide +kernel
theorem dX0_layOutRows_12 : decode cX0_layOutRows 12 = .ok (.getfield 52, 3) := by decide +kernel
theorem dX0_layOutRows_15 : decode cX0_layOutRows 15 = .ok (.isub, 1) := by decide +kernel
theorem dX0_layOutRows_16 : decode cX0_layOutRows 16 = .ok (.if_icmp .gt 54, 3) := by decide +kernel
theorem dX0_layOutRows_19 : decode cX0_layOutRows 19 = .ok (.iload 4, 2) := by decide +kernel
theorem dX0_layOutRows_21 : decode cX0_layOutRows 21 = .ok (.aload_n 0, 1) := by decide +kernel
theorem dX0_layOutRows_22 : decode cX0_layOutRows 22 = .ok (.getfield 15, 3) := by decide +kernel
theorem dX0_layOutRows_25 : decode cX0_layOutRows 25 = .ok (.arraylength, 1) := by decide +kernel
theorem dX0_layOutRows_26 : decode cX0_layOutRows 26 = .ok (.if_icmp .ge 44, 3) := by decide +kernel
theorem dX0_layOutRows_29 : decode cX0_layOutRows 29 = .ok (.aload_n 0, 1) := by decide +kernel
theorem dX0_layOutRows_30 : decode cX0_layOutRows 30 = .ok (.getfield 15, 3) := by decide +kernel
theorem dX0_layOutRows_33 : decode cX0_layOutRows 33 = .ok (.iload 4, 2) := by decide +kernel
theorem dX0_layOutRows_35 : decode cX0_layOutRows 35 = .ok (.iload_n 3, 1) := by decide +kernel
theorem dX0_layOutRows_36 : decode cX0_layOutRows 36 = .ok (.iastore, 1) := by decide +kernel
theorem dX0_layOutRows_37 : decode cX0_layOutRows 37 = .ok (.aload_n 1, 1) := by decide +kernel
theorem dX0_layOutRows_38 : decode cX0_layOutRows 38 = .ok (.aload_n 0, 1) := by decide +kernel
theorem dX0_layOutRows_39 : decode cX0_layOutRows 39 = .ok (.getfield 52, 3) := by decide +kernel
theorem dX0_layOutRows_42 : decode cX0_layOutRows 42 = .ok (.iload 4, 2) := by decide +kernel
theorem dX0_layOutRows_44 : decode cX0_layOutRows 44 = .ok (.iadd, 1) := by decide +kernel
theorem dX0_layOutRows_45 : decode cX0_layOutRows 45 = .ok (.invokevirtual 144, 3) := by decide +kernel
theorem dX0_layOutRows_48 : decode cX0_layOutRows 48 = .ok (.astore 5, 2) := by decide +kernel
theorem dX0_layOutRows_50 : decode cX0_layOutRows 50 = .ok (.aload 5, 2) := by decide +kernel
theorem dX0_layOutRows_52 : decode cX0_layOutRows 52 = .ok (.ifnull 12, 3) := by decide +kernel
theorem dX0_layOutRows_55 : decode cX0_layOutRows 55 = .ok (.iload_n 3, 1) := by decide +kernel
theorem dX0_layOutRows_56 : decode cX0_layOutRows 56 = .ok (.aload_n 0, 1) := by decide +kernel
theorem dX0_layOutRows_57 : decode cX0_layOutRows 57 = .ok (.aload 5, 2) := by decide +kernel
theorem dX0_layOutRows_59 : decode cX0_layOutRows 59 = .ok (.invokevirtual 152, 3) := by decide +kernel
theorem dX0_layOutRows_62 : decode cX0_layOutRows 62 = .ok (.iadd, 1) := by decide +kernel
theorem dX0_layOutRows_63 : decode cX0_layOutRows 63 = .ok (.istore_n 3, 1) := by decide +kernel
theorem dX0_layOutRows_64 : decode cX0_layOutRows 64 = .ok (.iinc 4 1, 3) := by decide +kernel
theorem dX0_layOutRows_67 : decode cX0_layOutRows 67 = .ok (.goto (-62), 3) := by decide +kernel
theorem dX0_layOutRows_70 : decode cX0_layOutRows 70 = .ok (.iload_n 3, 1) := by decide +kernel
theorem dX0_layOutRows_71 : decode cX0_layOutRows 71 = .ok (.ireturn, 1) := by decide +kernel
theorem dX0_lengthOf_0 : decode cX0_lengthOf 0 = .ok (.aload_n 1, 1) := by decide +kernel
theorem dX0_lengthOf_1 : decode cX0_lengthOf 1 = .ok (.getfield 156, 3) := by decide +kernel
theorem dX0_lengthOf_4 : decode cX0_lengthOf 4 = .ok (.ifCond .lt 25, 3) := by decide +kernel
theorem dX0_lengthOf_7 : decode cX0_lengthOf 7 = .ok (.aload_n 1, 1) := by decide +kernel
theorem dX0_lengthOf_8 : decode cX0_lengthOf 8 = .ok (.getfield 156, 3) := by decide +kernel
theorem dX0_lengthOf_11 : decode cX0_lengthOf 11 = .ok (.getstatic 161, 3) := by decide +kernel
theorem dX0_lengthOf_14 : decode cX0_lengthOf 14 = .ok (.arraylength, 1) := by decide +kernel
theorem dX0_lengthOf_15 : decode cX0_lengthOf 15 = .ok (.if_icmp .ge 14, 3) := by decide +kernel
theorem dX0_lengthOf_18 : decode cX0_lengthOf 18 = .ok (.getstatic 161, 3) := by decide +kernel
theorem dX0_lengthOf_21 : decode cX0_lengthOf 21 = .ok (.aload_n 1, 1) := by decide +kernel
theorem dX0_lengthOf_22 : decode cX0_lengthOf 22 = .ok (.getfield 156, 3) := by decide +kernel
theorem dX0_lengthOf_25 : decode cX0_lengthOf 25 = .ok (.iaload, 1) := by decide +kernel
theorem dX0_lengthOf_26 : decode cX0_lengthOf 26 = .ok (.goto 4, 3) := by decide +kernel
theorem dX0_lengthOf_29 : decode cX0_lengthOf 29 = .ok (.iconst 0, 1) := by decide +kernel
theorem dX0_lengthOf_30 : decode cX0_lengthOf 30 = .ok (.istore_n 2, 1) := by decide +kernel
theorem dX0_lengthOf_31 : decode cX0_lengthOf 31 = .ok (.aload_n 1, 1) := by decide +kernel
theorem dX0_lengthOf_32 : decode cX0_lengthOf 32 = .ok (.getfield 156, 3) := by decide +kernel
theorem dX0_lengthOf_35 : decode cX0_lengthOf 35 = .ok (.bipush 8, 2) := by decide +kernel
theorem dX0_lengthOf_37 : decode cX0_lengthOf 37 = .ok (.if_icmp .eq 12, 3) := by decide +kernel
theorem dX0_lengthOf_40 : decode cX0_lengthOf 40 = .ok (.aload_n 1, 1) := by decide +kernel
theorem dX0_lengthOf_41 : decode cX0_lengthOf 41 = .ok (.getfield 156, 3) := by decide +kernel
theorem dX0_lengthOf_44 : decode cX0_lengthOf 44 = .ok (.bipush 9, 2) := by decide +kernel
theorem dX0_lengthOf_46 : decode cX0_lengthOf 46 = .ok (.if_icmp .ne 7, 3) := by decide +kernel
theorem dX0_lengthOf_49 : decode cX0_lengthOf 49 = .ok (.iconst 1, 1) := by decide +kernel
theorem dX0_lengthOf_50 : decode cX0_lengthOf 50 = .ok (.goto 4, 3) := by decide +kernel
theorem dX0_lengthOf_53 : decode cX0_lengthOf 53 = .ok (.iconst 0, 1) := by decide +kernel
theorem dX0_lengthOf_54 : decode cX0_lengthOf 54 = .ok (.istore_n 3, 1) := by decide +kernel
theorem dX0_lengthOf_55 : decode cX0_lengthOf 55 = .ok (.iload_n 3, 1) := by decide +kernel
theorem dX0_lengthOf_56 : decode cX0_lengthOf 56 = .ok (.ifCond .eq 16, 3) := by decide +kernel
theorem dX0_lengthOf_59 : decode cX0_lengthOf 59 = .ok (.iload_n 2, 1) := by decide +kernel
theorem dX0_lengthOf_60 : decode cX0_lengthOf 60 = .ok (.aload_n 0, 1) := by decide +kernel
theorem dX0_lengthOf_61 : decode cX0_lengthOf 61 = .ok (.aload_n 1, 1) := by decide +kernel
theorem dX0_lengthOf_62 : decode cX0_lengthOf 62 = .ok (.getfield 164, 3) := by decide +kernel
theorem dX0_lengthOf_65 : decode cX0_lengthOf 65 = .ok (.invokevirtual 167, 3) := by decide +kernel
theorem dX0_lengthOf_68 : decode cX0_lengthOf 68 = .ok (.iadd, 1) := by decide +kernel
theorem dX0_lengthOf_69 : decode cX0_lengthOf 69 = .ok (.goto 4, 3) := by decide +kernel
theorem dX0_lengthOf_72 : decode cX0_lengthOf 72 = .ok (.iload_n 2, 1) := by decide +kernel
theorem dX0_lengthOf_73 : decode cX0_lengthOf 73 = .ok (.ireturn, 1) := by decide +kernel
theorem dX0_jumpLength_0 : decode cX0_jumpLength 0 = .ok (.aload_n 0, 1) := by decide +kernel
theorem dX0_jumpLength_1 : decode cX0_jumpLength 1 = .ok (.iload_n 1, 1) := by decide +kernel
theorem dX0_jumpLength_2 : decode cX0_jumpLength 2 = .ok (.invokevirtual 170, 3) := by decide +kernel
theorem dX0_jumpLength_5 : decode cX0_jumpLength 5 = .ok (.ifCond .eq 7, 3) := by decide +kernel
theorem dX0_jumpLength_8 : decode cX0_jumpLength 8 = .ok (.iconst 3, 1) := by decide +kernel
theorem dX0_jumpLength_9 : decode cX0_jumpLength 9 = .ok (.goto 4, 3) := by decide +kernel
theorem dX0_jumpLength_12 : decode cX0_jumpLength 12 = .ok (.iconst 4, 1) := by decide +kernel
theorem dX0_jumpLength_13 : decode cX0_jumpLength 13 = .ok (.ireturn, 1) := by decide +kernel
theorem dX0_isInside_0 : decode cX0_isInside 0 = .ok (.iload_n 1, 1) := by decide +kernel
theorem dX0_isInside_1 : decode cX0_isInside 1 = .ok (.aload_n 0, 1) := by decide +kernel
theorem dX0_isInside_2 : decode cX0_isInside 2 = .ok (.getfield 52, 3) := by decide +kernel
theorem dX0_isInside_5 : decode cX0_isInside 5 = .ok (.if_icmp .lt 15, 3) := by decide +kernel
theorem dX0_isInside_8 : decode cX0_isInside 8 = .ok (.iload_n 1, 1) := by decide +kernel
theorem dX0_isInside_9 : decode cX0_isInside 9 = .ok (.aload_n 0, 1) := by decide +kernel
theorem dX0_isInside_10 : decode cX0_isInside 10 = .ok (.getfield 61, 3) := by decide +kernel
theorem dX0_isInside_13 : decode cX0_isInside 13 = .ok (.if_icmp .gt 7, 3) := by decide +kernel
theorem dX0_isInside_16 : decode cX0_isInside 16 = .ok (.iconst 1, 1) := by decide +kernel
theorem dX0_isInside_17 : decode cX0_isInside 17 = .ok (.goto 4, 3) := by decide +kernel
theorem dX0_isInside_20 : decode cX0_isInside 20 = .ok (.iconst 0, 1) := by decide +kernel
theorem dX0_isInside_21 : decode cX0_isInside 21 = .ok (.ireturn, 1) := by decide +kernel
theorem dX0_writeRow_0 : decode cX0_writeRow 0 = .ok (.aload_n 1, 1) := by decide +kernel
theorem dX0_writeRow_1 : decode cX0_writeRow 1 = .ok (.getfield 156, 3) := by decide +kernel
theorem dX0_writeRow_4 : decode cX0_writeRow 4 = .ok (.tableswitch 287 0 13 #[72, 97, 287, 287, 287, 287, 287, 122, 156, 198, 210, 223, 236, 249], 72) := by decide +kernel
theorem dX0_writeRow_76 : decode cX0_writeRow 76 = .ok (.aload_n 0, 1) := by decide +kernel
theorem dX0_writeRow_77 : decode cX0_writeRow 77 = .ok (.aload_n 1, 1) := by decide +kernel
theorem dX0_writeRow_78 : decode cX0_writeRow 78 = .ok (.getfield 174, 3) := by decide +kernel
theorem dX0_writeRow_81 : decode cX0_writeRow 81 = .ok (.invokevirtual 177, 3) := by decide +kernel
theorem dX0_writeRow_84 : decode cX0_writeRow 84 = .ok (.aload_n 0, 1) := by decide +kernel
theorem dX0_writeRow_85 : decode cX0_writeRow 85 = .ok (.aload_n 1, 1) := by decide +kernel
theorem dX0_writeRow_86 : decode cX0_writeRow 86 = .ok (.getfield 164, 3) := by decide +kernel
theorem dX0_writeRow_89 : decode cX0_writeRow 89 = .ok (.invokevirtual 131, 3) := by decide +kernel
theorem dX0_writeRow_92 : decode cX0_writeRow 92 = .ok (.aload_n 0, 1) := by decide +kernel
theorem dX0_writeRow_93 : decode cX0_writeRow 93 = .ok (.bipush 84, 2) := by decide +kernel
theorem dX0_writeRow_95 : decode cX0_writeRow 95 = .ok (.invokevirtual 126, 3) := by decide +kernel
theorem dX0_writeRow_98 : decode cX0_writeRow 98 = .ok (.goto 242, 3) := by decide +kernel
theorem dX0_writeRow_101 : decode cX0_writeRow 101 = .ok (.aload_n 0, 1) := by decide +kernel
theorem dX0_writeRow_102 : decode cX0_writeRow 102 = .ok (.aload_n 1, 1) := by decide +kernel
theorem dX0_writeRow_103 : decode cX0_writeRow 103 = .ok (.getfield 174, 3) := by decide +kernel
theorem dX0_writeRow_106 : decode cX0_writeRow 106 = .ok (.invokevirtual 177, 3) := by decide +kernel
theorem dX0_writeRow_109 : decode cX0_writeRow 109 = .ok (.aload_n 0, 1) := by decide +kernel
theorem dX0_writeRow_110 : decode cX0_writeRow 110 = .ok (.aload_n 1, 1) := by decide +kernel
theorem dX0_writeRow_111 : decode cX0_writeRow 111 = .ok (.getfield 164, 3) := by decide +kernel
theorem dX0_writeRow_114 : decode cX0_writeRow 114 = .ok (.invokevirtual 180, 3) := by decide +kernel
theorem dX0_writeRow_117 : decode cX0_writeRow 117 = .ok (.aload_n 0, 1) := by decide +kernel
theorem dX0_writeRow_118 : decode cX0_writeRow 118 = .ok (.bipush 84, 2) := by decide +kernel
theorem dX0_writeRow_120 : decode cX0_writeRow 120 = .ok (.invokevirtual 126, 3) := by decide +kernel
theorem dX0_writeRow_123 : decode cX0_writeRow 123 = .ok (.goto 217, 3) := by decide +kernel
theorem dX0_writeRow_126 : decode cX0_writeRow 126 = .ok (.aload_n 0, 1) := by decide +kernel
theorem dX0_writeRow_127 : decode cX0_writeRow 127 = .ok (.sipush 178, 3) := by decide +kernel
theorem dX0_writeRow_130 : decode cX0_writeRow 130 = .ok (.bipush 8, 2) := by decide +kernel
theorem dX0_writeRow_132 : decode cX0_writeRow 132 = .ok (.invokevirtual 134, 3) := by decide +kernel
theorem dX0_writeRow_135 : decode cX0_writeRow 135 = .ok (.aload_n 0, 1) := by decide +kernel
theorem dX0_writeRow_136 : decode cX0_writeRow 136 = .ok (.aload_n 1, 1) := by decide +kernel
theorem dX0_writeRow_137 : decode cX0_writeRow 137 = .ok (.getfield 174, 3) := by decide +kernel
theorem dX0_writeRow_140 : decode cX0_writeRow 140 = .ok (.invokevirtual 180, 3) := by decide +kernel
theorem dX0_writeRow_143 : decode cX0_writeRow 143 = .ok (.aload_n 0, 1) := by decide +kernel
theorem dX0_writeRow_144 : decode cX0_writeRow 144 = .ok (.aload_n 1, 1) := by decide +kernel
theorem dX0_writeRow_145 : decode cX0_writeRow 145 = .ok (.getfield 164, 3) := by decide +kernel
theorem dX0_writeRow_148 : decode cX0_writeRow 148 = .ok (.invokevirtual 180, 3) := by decide +kernel
theorem dX0_writeRow_151 : decode cX0_writeRow 151 = .ok (.aload_n 0, 1) := by decide +kernel
theorem dX0_writeRow_152 : decode cX0_writeRow 152 = .ok (.bipush 84, 2) := by decide +kernel
theorem dX0_writeRow_154 : decode cX0_writeRow 154 = .ok (.invokevirtual 126, 3) := by decide +kernel
theorem dX0_writeRow_157 : decode cX0_writeRow 157 = .ok (.goto 183, 3) := by decide +kernel
theorem dX0_writeRow_160 : decode cX0_writeRow 160 = .ok (.aload_n 0, 1) := by decide +kernel
theorem dX0_writeRow_161 : decode cX0_writeRow 161 = .ok (.aload_n 1, 1) := by decide +kernel
theorem dX0_writeRow_162 : decode cX0_writeRow 162 = .ok (.getfield 174, 3) := by decide +kernel
theorem dX0_writeRow_165 : decode cX0_writeRow 165 = .ok (.invokevirtual 180, 3) := by decide +kernel
theorem dX0_writeRow_168 : decode cX0_writeRow 168 = .ok (.aload_n 0, 1) := by decide +kernel
theorem dX0_writeRow_169 : decode cX0_writeRow 169 = .ok (.sipush 154, 3) := by decide +kernel
theorem dX0_writeRow_172 : decode cX0_writeRow 172 = .ok (.iconst 3, 1) := by decide +kernel
theorem dX0_writeRow_173 : decode cX0_writeRow 173 = .ok (.aload_n 0, 1) := by decide +kernel
theorem dX0_writeRow_174 : decode cX0_writeRow 174 = .ok (.aload_n 1, 1) := by decide +kernel
theorem dX0_writeRow_175 : decode cX0_writeRow 175 = .ok (.getfield 164, 3) := by decide +kernel
theorem dX0_writeRow_178 : decode cX0_writeRow 178 = .ok (.invokevirtual 167, 3) := by decide +kernel
theorem dX0_writeRow_181 : decode cX0_writeRow 181 = .ok (.iadd, 1) := by decide +kernel
theorem dX0_writeRow_182 : decode cX0_writeRow 182 = .ok (.invokevirtual 134, 3) := by decide +kernel
theorem dX0_writeRow_185 : decode cX0_writeRow 185 = .ok (.aload_n 0, 1) := by decide +kernel
theorem dX0_writeRow_186 : decode cX0_writeRow 186 = .ok (.aload_n 1, 1) := by decide +kernel
theorem dX0_writeRow_187 : decode cX0_writeRow 187 = .ok (.getfield 164, 3) := by decide +kernel
theorem dX0_writeRow_190 : decode cX0_writeRow 190 = .ok (.iload_n 2, 1) := by decide +kernel
theorem dX0_writeRow_191 : decode cX0_writeRow 191 = .ok (.bipush 6, 2) := by decide +kernel
theorem dX0_writeRow_193 : decode cX0_writeRow 193 = .ok (.iadd, 1) := by decide +kernel
theorem dX0_writeRow_194 : decode cX0_writeRow 194 = .ok (.iconst 3, 1) := by decide +kernel
theorem dX0_writeRow_195 : decode cX0_writeRow 195 = .ok (.iadd, 1) := by decide +kernel
theorem dX0_writeRow_196 : decode cX0_writeRow 196 = .ok (.invokevirtual 183, 3) := by decide +kernel
theorem dX0_writeRow_199 : decode cX0_writeRow 199 = .ok (.goto 141, 3) := by decide +kernel
theorem dX0_writeRow_202 : decode cX0_writeRow 202 = .ok (.aload_n 0, 1) := by decide +kernel
theorem dX0_writeRow_203 : decode cX0_writeRow 203 = .ok (.aload_n 1, 1) := by decide +kernel
theorem dX0_writeRow_204 : decode cX0_writeRow 204 = .ok (.getfield 164, 3) := by decide +kernel
theorem dX0_writeRow_207 : decode cX0_writeRow 207 = .ok (.iload_n 2, 1) := by decide +kernel
theorem dX0_writeRow_208 : decode cX0_writeRow 208 = .ok (.invokevirtual 183, 3) := by decide +kernel
theorem dX0_writeRow_211 : decode cX0_writeRow 211 = .ok (.goto 129, 3) := by decide +kernel
theorem dX0_writeRow_214 : decode cX0_writeRow 214 = .ok (.aload_n 0, 1) := by decide +kernel
theorem dX0_writeRow_215 : decode cX0_writeRow 215 = .ok (.aload_n 1, 1) := by decide +kernel
theorem dX0_writeRow_216 : decode cX0_writeRow 216 = .ok (.getfield 174, 3) := by decide +kernel
theorem dX0_writeRow_219 : decode cX0_writeRow 219 = .ok (.bipush 14, 2) := by decide +kernel
theorem dX0_writeRow_221 : decode cX0_writeRow 221 = .ok (.invokevirtual 186, 3) := by decide +kernel
theorem dX0_writeRow_224 : decode cX0_writeRow 224 = .ok (.goto 116, 3) := by decide +kernel
theorem dX0_writeRow_227 : decode cX0_writeRow 227 = .ok (.aload_n 0, 1) := by decide +kernel
theorem dX0_writeRow_228 : decode cX0_writeRow 228 = .ok (.aload_n 1, 1) := by decide +kernel
theorem dX0_writeRow_229 : decode cX0_writeRow 229 = .ok (.getfield 174, 3) := by decide +kernel
theorem dX0_writeRow_232 : decode cX0_writeRow 232 = .ok (.bipush 17, 2) := by decide +kernel
theorem dX0_writeRow_234 : decode cX0_writeRow 234 = .ok (.invokevirtual 186, 3) := by decide +kernel
theorem dX0_writeRow_237 : decode cX0_writeRow 237 = .ok (.goto 103, 3) := by decide +kernel
theorem dX0_writeRow_240 : decode cX0_writeRow 240 = .ok (.aload_n 0, 1) := by decide +kernel
theorem dX0_writeRow_241 : decode cX0_writeRow 241 = .ok (.aload_n 1, 1) := by decide +kernel
theorem dX0_writeRow_242 : decode cX0_writeRow 242 = .ok (.getfield 174, 3) := by decide +kernel
theorem dX0_writeRow_245 : decode cX0_writeRow 245 = .ok (.bipush 20, 2) := by decide +kernel
theorem dX0_writeRow_247 : decode cX0_writeRow 247 = .ok (.invokevirtual 186, 3) := by decide +kernel
theorem dX0_writeRow_250 : decode cX0_writeRow 250 = .ok (.goto 90, 3) := by decide +kernel
theorem dX0_writeRow_253 : decode cX0_writeRow 253 = .ok (.aload_n 0, 1) := by decide +kernel
theorem dX0_writeRow_254 : decode cX0_writeRow 254 = .ok (.aload_n 1, 1) := by decide +kernel
theorem dX0_writeRow_255 : decode cX0_writeRow 255 = .ok (.getfield 174, 3) := by decide +kernel
theorem dX0_writeRow_258 : decode cX0_writeRow 258 = .ok (.invokevirtual 180, 3) := by decide +kernel
theorem dX0_writeRow_261 : decode cX0_writeRow 261 = .ok (.aload_n 0, 1) := by decide +kernel
theorem dX0_writeRow_262 : decode cX0_writeRow 262 = .ok (.aload_n 1, 1) := by decide +kernel
theorem dX0_writeRow_263 : decode cX0_writeRow 263 = .ok (.getfield 164, 3) := by decide +kernel
theorem dX0_writeRow_266 : decode cX0_writeRow 266 = .ok (.invokevirtual 131, 3) := by decide +kernel
theorem dX0_writeRow_269 : decode cX0_writeRow 269 = .ok (.aload_n 0, 1) := by decide +kernel
theorem dX0_writeRow_270 : decode cX0_writeRow 270 = .ok (.sipush 164, 3) := by decide +kernel
theorem dX0_writeRow_273 : decode cX0_writeRow 273 = .ok (.bipush 8, 2) := by decide +kernel
theorem dX0_writeRow_275 : decode cX0_writeRow 275 = .ok (.invokevirtual 134, 3) := by decide +kernel
theorem dX0_writeRow_278 : decode cX0_writeRow 278 = .ok (.aload_n 0, 1) := by decide +kernel
theorem dX0_writeRow_279 : decode cX0_writeRow 279 = .ok (.aload_n 1, 1) := by decide +kernel
theorem dX0_writeRow_280 : decode cX0_writeRow 280 = .ok (.getfield 174, 3) := by decide +kernel
theorem dX0_writeRow_283 : decode cX0_writeRow 283 = .ok (.bipush 23, 2) := by decide +kernel
theorem dX0_writeRow_285 : decode cX0_writeRow 285 = .ok (.invokevirtual 186, 3) := by decide +kernel
theorem dX0_writeRow_288 : decode cX0_writeRow 288 = .ok (.goto 52, 3) := by decide +kernel
theorem dX0_writeRow_291 : decode cX0_writeRow 291 = .ok (.aload_n 0, 1) := by decide +kernel
theorem dX0_writeRow_292 : decode cX0_writeRow 292 = .ok (.aload_n 1, 1) := by decide +kernel
theorem dX0_writeRow_293 : decode cX0_writeRow 293 = .ok (.getfield 174, 3) := by decide +kernel
theorem dX0_writeRow_296 : decode cX0_writeRow 296 = .ok (.invokevirtual 177, 3) := by decide +kernel
theorem dX0_writeRow_299 : decode cX0_writeRow 299 = .ok (.aload_n 0, 1) := by decide +kernel
theorem dX0_writeRow_300 : decode cX0_writeRow 300 = .ok (.aload_n 1, 1) := by decide +kernel
theorem dX0_writeRow_301 : decode cX0_writeRow 301 = .ok (.getfield 174, 3) := by decide +kernel
theorem dX0_writeRow_304 : decode cX0_writeRow 304 = .ok (.invokevirtual 180, 3) := by decide +kernel
theorem dX0_writeRow_307 : decode cX0_writeRow 307 = .ok (.aload_n 0, 1) := by decide +kernel
theorem dX0_writeRow_308 : decode cX0_writeRow 308 = .ok (.aload_n 1, 1) := by decide +kernel
theorem dX0_writeRow_309 : decode cX0_writeRow 309 = .ok (.getfield 164, 3) := by decide +kernel
theorem dX0_writeRow_312 : decode cX0_writeRow 312 = .ok (.invokevirtual 180, 3) := by decide +kernel
theorem dX0_writeRow_315 : decode cX0_writeRow 315 = .ok (.aload_n 0, 1) := by decide +kernel
theorem dX0_writeRow_316 : decode cX0_writeRow 316 = .ok (.aload_n 0, 1) := by decide +kernel
theorem dX0_writeRow_317 : decode cX0_writeRow 317 = .ok (.aload_n 1, 1) := by decide +kernel
theorem dX0_writeRow_318 : decode cX0_writeRow 318 = .ok (.getfield 156, 3) := by decide +kernel
theorem dX0_writeRow_321 : decode cX0_writeRow 321 = .ok (.invokevirtual 189, 3) := by decide +kernel
theorem dX0_writeRow_324 : decode cX0_writeRow 324 = .ok (.invokevirtual 126, 3) := by decide +kernel
theorem dX0_writeRow_327 : decode cX0_writeRow 327 = .ok (.aload_n 0, 1) := by decide +kernel
theorem dX0_writeRow_328 : decode cX0_writeRow 328 = .ok (.sipush 145, 3) := by decide +kernel
theorem dX0_writeRow_331 : decode cX0_writeRow 331 = .ok (.invokevirtual 126, 3) := by decide +kernel
theorem dX0_writeRow_334 : decode cX0_writeRow 334 = .ok (.aload_n 0, 1) := by decide +kernel
theorem dX0_writeRow_335 : decode cX0_writeRow 335 = .ok (.bipush 84, 2) := by decide +kernel
theorem dX0_writeRow_337 : decode cX0_writeRow 337 = .ok (.invokevirtual 126, 3) := by decide +kernel
theorem dX0_writeRow_340 : decode cX0_writeRow 340 = .ok (.return_, 1) := by decide +kernel
theorem dX0_arithmeticOf_0 : decode cX0_arithmeticOf 0 = .ok (.iload_n 1, 1) := by decide +kernel
theorem dX0_arithmeticOf_1 : decode cX0_arithmeticOf 1 = .ok (.tableswitch 43 2 5 #[31, 34, 37, 40], 31) := by decide +kernel
theorem dX0_arithmeticOf_32 : decode cX0_arithmeticOf 32 = .ok (.bipush 96, 2) := by decide +kernel
theorem dX0_arithmeticOf_34 : decode cX0_arithmeticOf 34 = .ok (.ireturn, 1) := by decide +kernel
theorem dX0_arithmeticOf_35 : decode cX0_arithmeticOf 35 = .ok (.bipush 100, 2) := by decide +kernel
theorem dX0_arithmeticOf_37 : decode cX0_arithmeticOf 37 = .ok (.ireturn, 1) := by decide +kernel
theorem dX0_arithmeticOf_38 : decode cX0_arithmeticOf 38 = .ok (.bipush 104, 2) := by decide +kernel
theorem dX0_arithmeticOf_40 : decode cX0_arithmeticOf 40 = .ok (.ireturn, 1) := by decide +kernel
theorem dX0_arithmeticOf_41 : decode cX0_arithmeticOf 41 = .ok (.bipush 108, 2) := by decide +kernel
theorem dX0_arithmeticOf_43 : decode cX0_arithmeticOf 43 = .ok (.ireturn, 1) := by decide +kernel
theorem dX0_arithmeticOf_44 : decode cX0_arithmeticOf 44 = .ok (.bipush 112, 2) := by decide +kernel
theorem dX0_arithmeticOf_46 : decode cX0_arithmeticOf 46 = .ok (.ireturn, 1) := by decide +kernel
theorem dX0_address_0 : decode cX0_address 0 = .ok (.aload_n 0, 1) := by decide +kernel
theorem dX0_address_1 : decode cX0_address 1 = .ok (.sipush 178, 3) := by decide +kernel
theorem dX0_address_4 : decode cX0_address 4 = .ok (.bipush 8, 2) := by decide +kernel
theorem dX0_address_6 : decode cX0_address 6 = .ok (.invokevirtual 134, 3) := by decide +kernel
theorem dX0_address_9 : decode cX0_address 9 = .ok (.aload_n 0, 1) := by decide +kernel
theorem dX0_address_10 : decode cX0_address 10 = .ok (.iload_n 1, 1) := by decide +kernel
theorem dX0_address_11 : decode cX0_address 11 = .ok (.invokevirtual 131, 3) := by decide +kernel
theorem dX0_address_14 : decode cX0_address 14 = .ok (.return_, 1) := by decide +kernel
theorem dX0_load_0 : decode cX0_load 0 = .ok (.aload_n 0, 1) := by decide +kernel
theorem dX0_load_1 : decode cX0_load 1 = .ok (.sipush 178, 3) := by decide +kernel
theorem dX0_load_4 : decode cX0_load 4 = .ok (.bipush 8, 2) := by decide +kernel
theorem dX0_load_6 : decode cX0_load 6 = .ok (.invokevirtual 134, 3) := by decide +kernel
theorem dX0_load_9 : decode cX0_load 9 = .ok (.aload_n 0, 1) := by decide +kernel
theorem dX0_load_10 : decode cX0_load 10 = .ok (.iload_n 1, 1) := by decide +kernel
theorem dX0_load_11 : decode cX0_load 11 = .ok (.invokevirtual 131, 3) := by decide +kernel
theorem dX0_load_14 : decode cX0_load 14 = .ok (.aload_n 0, 1) := by decide +kernel
theorem dX0_load_15 : decode cX0_load 15 = .ok (.bipush 51, 2) := by decide +kernel
theorem dX0_load_17 : decode cX0_load 17 = .ok (.invokevirtual 126, 3) := by decide +kernel
theorem dX0_load_20 : decode cX0_load 20 = .ok (.return_, 1) := by decide +kernel
theorem dX0_hand_0 : decode cX0_hand 0 = .ok (.aload_n 0, 1) := by decide +kernel
theorem dX0_hand_1 : decode cX0_hand 1 = .ok (.iload_n 1, 1) := by decide +kernel
theorem dX0_hand_2 : decode cX0_hand 2 = .ok (.invokevirtual 131, 3) := by decide +kernel
theorem dX0_hand_5 : decode cX0_hand 5 = .ok (.aload_n 0, 1) := by decide +kernel
theorem dX0_hand_6 : decode cX0_hand 6 = .ok (.sipush 184, 3) := by decide +kernel
theorem dX0_hand_9 : decode cX0_hand 9 = .ok (.iload_n 2, 1) := by decide +kernel
theorem dX0_hand_10 : decode cX0_hand 10 = .ok (.invokevirtual 134, 3) := by decide +kernel
theorem dX0_hand_13 : decode cX0_hand 13 = .ok (.return_, 1) := by decide +kernel
theorem dX0_jump_0 : decode cX0_jump 0 = .ok (.iload_n 1, 1) := by decide +kernel
theorem dX0_jump_1 : decode cX0_jump 1 = .ok (.aload_n 0, 1) := by decide +kernel
theorem dX0_jump_2 : decode cX0_jump 2 = .ok (.getfield 52, 3) := by decide +kernel
theorem dX0_jump_5 : decode cX0_jump 5 = .ok (.isub, 1) := by decide +kernel
theorem dX0_jump_6 : decode cX0_jump 6 = .ok (.istore_n 3, 1) := by decide +kernel
theorem dX0_jump_7 : decode cX0_jump 7 = .ok (.aload_n 0, 1) := by decide +kernel
theorem dX0_jump_8 : decode cX0_jump 8 = .ok (.iload_n 1, 1) := by decide +kernel
theorem dX0_jump_9 : decode cX0_jump 9 = .ok (.invokevirtual 170, 3) := by decide +kernel
theorem dX0_jump_12 : decode cX0_jump 12 = .ok (.ifCond .eq 34, 3) := by decide +kernel
theorem dX0_jump_15 : decode cX0_jump 15 = .ok (.iload_n 3, 1) := by decide +kernel
theorem dX0_jump_16 : decode cX0_jump 16 = .ok (.ifCond .lt 30, 3) := by decide +kernel
theorem dX0_jump_19 : decode cX0_jump 19 = .ok (.iload_n 3, 1) := by decide +kernel
theorem dX0_jump_20 : decode cX0_jump 20 = .ok (.aload_n 0, 1) := by decide +kernel
theorem dX0_jump_21 : decode cX0_jump 21 = .ok (.getfield 15, 3) := by decide +kernel
theorem dX0_jump_24 : decode cX0_jump 24 = .ok (.arraylength, 1) := by decide +kernel
theorem dX0_jump_25 : decode cX0_jump 25 = .ok (.if_icmp .ge 21, 3) := by decide +kernel
theorem dX0_jump_28 : decode cX0_jump 28 = .ok (.aload_n 0, 1) := by decide +kernel
theorem dX0_jump_29 : decode cX0_jump 29 = .ok (.sipush 167, 3) := by decide +kernel
theorem dX0_jump_32 : decode cX0_jump 32 = .ok (.aload_n 0, 1) := by decide +kernel
theorem dX0_jump_33 : decode cX0_jump 33 = .ok (.getfield 15, 3) := by decide +kernel
theorem dX0_jump_36 : decode cX0_jump 36 = .ok (.iload_n 3, 1) := by decide +kernel
theorem dX0_jump_37 : decode cX0_jump 37 = .ok (.iaload, 1) := by decide +kernel
theorem dX0_jump_38 : decode cX0_jump 38 = .ok (.iload_n 2, 1) := by decide +kernel
theorem dX0_jump_39 : decode cX0_jump 39 = .ok (.isub, 1) := by decide +kernel
theorem dX0_jump_40 : decode cX0_jump 40 = .ok (.invokevirtual 134, 3) := by decide +kernel
theorem dX0_jump_43 : decode cX0_jump 43 = .ok (.goto 17, 3) := by decide +kernel
theorem dX0_jump_46 : decode cX0_jump 46 = .ok (.aload_n 0, 1) := by decide +kernel
theorem dX0_jump_47 : decode cX0_jump 47 = .ok (.bipush 17, 2) := by decide +kernel
theorem dX0_jump_49 : decode cX0_jump 49 = .ok (.iload_n 1, 1) := by decide +kernel
theorem dX0_jump_50 : decode cX0_jump 50 = .ok (.invokevirtual 134, 3) := by decide +kernel
theorem dX0_jump_53 : decode cX0_jump 53 = .ok (.aload_n 0, 1) := by decide +kernel
theorem dX0_jump_54 : decode cX0_jump 54 = .ok (.sipush 172, 3) := by decide +kernel
theorem dX0_jump_57 : decode cX0_jump 57 = .ok (.invokevirtual 126, 3) := by decide +kernel
theorem dX0_jump_60 : decode cX0_jump 60 = .ok (.return_, 1) := by decide +kernel
theorem dX0_push_0 : decode cX0_push 0 = .ok (.aload_n 0, 1) := by decide +kernel
theorem dX0_push_1 : decode cX0_push 1 = .ok (.bipush 16, 2) := by decide +kernel
theorem dX0_push_3 : decode cX0_push 3 = .ok (.invokevirtual 126, 3) := by decide +kernel
theorem dX0_push_6 : decode cX0_push 6 = .ok (.aload_n 0, 1) := by decide +kernel
theorem dX0_push_7 : decode cX0_push 7 = .ok (.iload_n 1, 1) := by decide +kernel
theorem dX0_push_8 : decode cX0_push 8 = .ok (.invokevirtual 126, 3) := by decide +kernel
theorem dX0_push_11 : decode cX0_push 11 = .ok (.return_, 1) := by decide +kernel
theorem dX0_withIndex_0 : decode cX0_withIndex 0 = .ok (.aload_n 0, 1) := by decide +kernel
theorem dX0_withIndex_1 : decode cX0_withIndex 1 = .ok (.iload_n 1, 1) := by decide +kernel
theorem dX0_withIndex_2 : decode cX0_withIndex 2 = .ok (.invokevirtual 126, 3) := by decide +kernel
theorem dX0_withIndex_5 : decode cX0_withIndex 5 = .ok (.aload_n 0, 1) := by decide +kernel
theorem dX0_withIndex_6 : decode cX0_withIndex 6 = .ok (.iload_n 2, 1) := by decide +kernel
theorem dX0_withIndex_7 : decode cX0_withIndex 7 = .ok (.bipush 8, 2) := by decide +kernel
theorem dX0_withIndex_9 : decode cX0_withIndex 9 = .ok (.ishr, 1) := by decide +kernel
theorem dX0_withIndex_10 : decode cX0_withIndex 10 = .ok (.invokevirtual 126, 3) := by decide +kernel
theorem dX0_withIndex_13 : decode cX0_withIndex 13 = .ok (.aload_n 0, 1) := by decide +kernel
theorem dX0_withIndex_14 : decode cX0_withIndex 14 = .ok (.iload_n 2, 1) := by decide +kernel
theorem dX0_withIndex_15 : decode cX0_withIndex 15 = .ok (.invokevirtual 126, 3) := by decide +kernel
theorem dX0_withIndex_18 : decode cX0_withIndex 18 = .ok (.return_, 1) := by decide +kernel
theorem dX0_methodHead_0 : decode cX0_methodHead 0 = .ok (.aload_n 0, 1) := by decide +kernel
theorem dX0_methodHead_1 : decode cX0_methodHead 1 = .ok (.bipush 8, 2) := by decide +kernel
theorem dX0_methodHead_3 : decode cX0_methodHead 3 = .ok (.invokevirtual 68, 3) := by decide +kernel
theorem dX0_methodHead_6 : decode cX0_methodHead 6 = .ok (.aload_n 0, 1) := by decide +kernel
theorem dX0_methodHead_7 : decode cX0_methodHead 7 = .ok (.iload_n 1, 1) := by decide +kernel
theorem dX0_methodHead_8 : decode cX0_methodHead 8 = .ok (.invokevirtual 68, 3) := by decide +kernel
theorem dX0_methodHead_11 : decode cX0_methodHead 11 = .ok (.aload_n 0, 1) := by decide +kernel
theorem dX0_methodHead_12 : decode cX0_methodHead 12 = .ok (.iload_n 2, 1) := by decide +kernel
theorem dX0_methodHead_13 : decode cX0_methodHead 13 = .ok (.invokevirtual 68, 3) := by decide +kernel
theorem dX0_methodHead_16 : decode cX0_methodHead 16 = .ok (.aload_n 0, 1) := by decide +kernel
theorem dX0_methodHead_17 : decode cX0_methodHead 17 = .ok (.iconst 1, 1) := by decide +kernel
theorem dX0_methodHead_18 : decode cX0_methodHead 18 = .ok (.invokevirtual 68, 3) := by decide +kernel
theorem dX0_methodHead_21 : decode cX0_methodHead 21 = .ok (.aload_n 0, 1) := by decide +kernel
theorem dX0_methodHead_22 : decode cX0_methodHead 22 = .ok (.bipush 24, 2) := by decide +kernel
theorem dX0_methodHead_24 : decode cX0_methodHead 24 = .ok (.invokevirtual 68, 3) := by decide +kernel
theorem dX0_methodHead_27 : decode cX0_methodHead 27 = .ok (.aload_n 0, 1) := by decide +kernel
theorem dX0_methodHead_28 : decode cX0_methodHead 28 = .ok (.bipush 12, 2) := by decide +kernel
theorem dX0_methodHead_30 : decode cX0_methodHead 30 = .ok (.iload 5, 2) := by decide +kernel
theorem dX0_methodHead_32 : decode cX0_methodHead 32 = .ok (.iadd, 1) := by decide +kernel
theorem dX0_methodHead_33 : decode cX0_methodHead 33 = .ok (.invokevirtual 78, 3) := by decide +kernel
theorem dX0_methodHead_36 : decode cX0_methodHead 36 = .ok (.aload_n 0, 1) := by decide +kernel
theorem dX0_methodHead_37 : decode cX0_methodHead 37 = .ok (.iload_n 3, 1) := by decide +kernel
theorem dX0_methodHead_38 : decode cX0_methodHead 38 = .ok (.invokevirtual 68, 3) := by decide +kernel
theorem dX0_methodHead_41 : decode cX0_methodHead 41 = .ok (.aload_n 0, 1) := by decide +kernel
theorem dX0_methodHead_42 : decode cX0_methodHead 42 = .ok (.iload 4, 2) := by decide +kernel
theorem dX0_methodHead_44 : decode cX0_methodHead 44 = .ok (.invokevirtual 68, 3) := by decide +kernel
theorem dX0_methodHead_47 : decode cX0_methodHead 47 = .ok (.aload_n 0, 1) := by decide +kernel
theorem dX0_methodHead_48 : decode cX0_methodHead 48 = .ok (.iload 5, 2) := by decide +kernel
theorem dX0_methodHead_50 : decode cX0_methodHead 50 = .ok (.invokevirtual 78, 3) := by decide +kernel
theorem dX0_methodHead_53 : decode cX0_methodHead 53 = .ok (.return_, 1) := by decide +kernel
theorem dX0_methodEnd_0 : decode cX0_methodEnd 0 = .ok (.aload_n 0, 1) := by decide +kernel
theorem dX0_methodEnd_1 : decode cX0_methodEnd 1 = .ok (.iconst 0, 1) := by decide +kernel
theorem dX0_methodEnd_2 : decode cX0_methodEnd 2 = .ok (.invokevirtual 68, 3) := by decide +kernel
theorem dX0_methodEnd_5 : decode cX0_methodEnd 5 = .ok (.aload_n 0, 1) := by decide +kernel
theorem dX0_methodEnd_6 : decode cX0_methodEnd 6 = .ok (.iconst 0, 1) := by decide +kernel
theorem dX0_methodEnd_7 : decode cX0_methodEnd 7 = .ok (.invokevirtual 68, 3) := by decide +kernel
theorem dX0_methodEnd_10 : decode cX0_methodEnd 10 = .ok (.return_, 1) := by decide +kernel
theorem dX0_text_0 : decode cX0_text 0 = .ok (.aload_n 0, 1) := by decide +kernel
theorem dX0_text_1 : decode cX0_text 1 = .ok (.iconst 1, 1) := by decide +kernel
theorem dX0_text_2 : decode cX0_text 2 = .ok (.invokevirtual 126, 3) := by decide +kernel
theorem dX0_text_5 : decode cX0_text 5 = .ok (.aload_n 0, 1) := by decide +kernel
theorem dX0_text_6 : decode cX0_text 6 = .ok (.aload_n 1, 1) := by decide +kernel
theorem dX0_text_7 : decode cX0_text 7 = .ok (.invokevirtual 192, 3) := by decide +kernel
theorem dX0_text_10 : decode cX0_text 10 = .ok (.invokevirtual 68, 3) := by decide +kernel
theorem dX0_text_13 : decode cX0_text 13 = .ok (.iconst 0, 1) := by decide +kernel
theorem dX0_text_14 : decode cX0_text 14 = .ok (.istore_n 2, 1) := by decide +kernel
theorem dX0_text_15 : decode cX0_text 15 = .ok (.iload_n 2, 1) := by decide +kernel
theorem dX0_text_16 : decode cX0_text 16 = .ok (.aload_n 1, 1) := by decide +kernel
theorem dX0_text_17 : decode cX0_text 17 = .ok (.invokevirtual 192, 3) := by decide +kernel
theorem dX0_text_20 : decode cX0_text 20 = .ok (.if_icmp .ge 18, 3) := by decide +kernel
theorem dX0_text_23 : decode cX0_text 23 = .ok (.aload_n 0, 1) := by decide +kernel
theorem dX0_text_24 : decode cX0_text 24 = .ok (.aload_n 1, 1) := by decide +kernel
theorem dX0_text_25 : decode cX0_text 25 = .ok (.iload_n 2, 1) := by decide +kernel
theorem dX0_text_26 : decode cX0_text 26 = .ok (.invokevirtual 197, 3) := by decide +kernel
theorem dX0_text_29 : decode cX0_text 29 = .ok (.invokevirtual 126, 3) := by decide +kernel
theorem dX0_text_32 : decode cX0_text 32 = .ok (.iinc 2 1, 3) := by decide +kernel
theorem dX0_text_35 : decode cX0_text 35 = .ok (.goto (-20), 3) := by decide +kernel
theorem dX0_text_38 : decode cX0_text 38 = .ok (.return_, 1) := by decide +kernel
theorem dX0_numberedText_0 : decode cX0_numberedText 0 = .ok (.aload_n 0, 1) := by decide +kernel
theorem dX0_numberedText_1 : decode cX0_numberedText 1 = .ok (.iconst 1, 1) := by decide +kernel
theorem dX0_numberedText_2 : decode cX0_numberedText 2 = .ok (.invokevirtual 126, 3) := by decide +kernel
theorem dX0_numberedText_5 : decode cX0_numberedText 5 = .ok (.aload_n 0, 1) := by decide +kernel
theorem dX0_numberedText_6 : decode cX0_numberedText 6 = .ok (.iload_n 2, 1) := by decide +kernel
theorem dX0_numberedText_7 : decode cX0_numberedText 7 = .ok (.bipush 10, 2) := by decide +kernel
theorem dX0_numberedText_9 : decode cX0_numberedText 9 = .ok (.if_icmp .ge 7, 3) := by decide +kernel
theorem dX0_numberedText_12 : decode cX0_numberedText 12 = .ok (.iconst 2, 1) := by decide +kernel
theorem dX0_numberedText_13 : decode cX0_numberedText 13 = .ok (.goto 4, 3) := by decide +kernel
theorem dX0_numberedText_16 : decode cX0_numberedText 16 = .ok (.iconst 3, 1) := by decide +kernel
theorem dX0_numberedText_17 : decode cX0_numberedText 17 = .ok (.invokevirtual 68, 3) := by decide +kernel
theorem dX0_numberedText_20 : decode cX0_numberedText 20 = .ok (.aload_n 0, 1) := by decide +kernel
theorem dX0_numberedText_21 : decode cX0_numberedText 21 = .ok (.iload_n 1, 1) := by decide +kernel
theorem dX0_numberedText_22 : decode cX0_numberedText 22 = .ok (.invokevirtual 126, 3) := by decide +kernel
theorem dX0_numberedText_25 : decode cX0_numberedText 25 = .ok (.iload_n 2, 1) := by decide +kernel
theorem dX0_numberedText_26 : decode cX0_numberedText 26 = .ok (.bipush 10, 2) := by decide +kernel
theorem dX0_numberedText_28 : decode cX0_numberedText 28 = .ok (.if_icmp .lt 14, 3) := by decide +kernel
theorem dX0_numberedText_31 : decode cX0_numberedText 31 = .ok (.aload_n 0, 1) := by decide +kernel
theorem dX0_numberedText_32 : decode cX0_numberedText 32 = .ok (.bipush 48, 2) := by decide +kernel
theorem dX0_numberedText_34 : decode cX0_numberedText 34 = .ok (.iload_n 2, 1) := by decide +kernel
theorem dX0_numberedText_35 : decode cX0_numberedText 35 = .ok (.bipush 10, 2) := by decide +kernel
theorem dX0_numberedText_37 : decode cX0_numberedText 37 = .ok (.idiv, 1) := by decide +kernel
theorem dX0_numberedText_38 : decode cX0_numberedText 38 = .ok (.iadd, 1) := by decide +kernel
theorem dX0_numberedText_39 : decode cX0_numberedText 39 = .ok (.invokevirtual 126, 3) := by decide +kernel
theorem dX0_numberedText_42 : decode cX0_numberedText 42 = .ok (.aload_n 0, 1) := by decide +kernel
theorem dX0_numberedText_43 : decode cX0_numberedText 43 = .ok (.bipush 48, 2) := by decide +kernel
theorem dX0_numberedText_45 : decode cX0_numberedText 45 = .ok (.iload_n 2, 1) := by decide +kernel
theorem dX0_numberedText_46 : decode cX0_numberedText 46 = .ok (.bipush 10, 2) := by decide +kernel
theorem dX0_numberedText_48 : decode cX0_numberedText 48 = .ok (.irem, 1) := by decide +kernel
theorem dX0_numberedText_49 : decode cX0_numberedText 49 = .ok (.iadd, 1) := by decide +kernel
theorem dX0_numberedText_50 : decode cX0_numberedText 50 = .ok (.invokevirtual 126, 3) := by decide +kernel
theorem dX0_numberedText_53 : decode cX0_numberedText 53 = .ok (.return_, 1) := by decide +kernel
theorem dX0_classConstant_0 : decode cX0_classConstant 0 = .ok (.aload_n 0, 1) := by decide +kernel
theorem dX0_classConstant_1 : decode cX0_classConstant 1 = .ok (.bipush 7, 2) := by decide +kernel
theorem dX0_classConstant_3 : decode cX0_classConstant 3 = .ok (.invokevirtual 126, 3) := by decide +kernel
theorem dX0_classConstant_6 : decode cX0_classConstant 6 = .ok (.aload_n 0, 1) := by decide +kernel
theorem dX0_classConstant_7 : decode cX0_classConstant 7 = .ok (.iload_n 1, 1) := by decide +kernel
theorem dX0_classConstant_8 : decode cX0_classConstant 8 = .ok (.invokevirtual 68, 3) := by decide +kernel
theorem dX0_classConstant_11 : decode cX0_classConstant 11 = .ok (.return_, 1) := by decide +kernel
theorem dX0_pair_0 : decode cX0_pair 0 = .ok (.aload_n 0, 1) := by decide +kernel
theorem dX0_pair_1 : decode cX0_pair 1 = .ok (.iload_n 1, 1) := by decide +kernel
theorem dX0_pair_2 : decode cX0_pair 2 = .ok (.invokevirtual 126, 3) := by decide +kernel
theorem dX0_pair_5 : decode cX0_pair 5 = .ok (.aload_n 0, 1) := by decide +kernel
theorem dX0_pair_6 : decode cX0_pair 6 = .ok (.iload_n 2, 1) := by decide +kernel
theorem dX0_pair_7 : decode cX0_pair 7 = .ok (.invokevirtual 68, 3) := by decide +kernel
theorem dX0_pair_10 : decode cX0_pair 10 = .ok (.aload_n 0, 1) := by decide +kernel
theorem dX0_pair_11 : decode cX0_pair 11 = .ok (.iload_n 3, 1) := by decide +kernel
theorem dX0_pair_12 : decode cX0_pair 12 = .ok (.invokevirtual 68, 3) := by decide +kernel
theorem dX0_pair_15 : decode cX0_pair 15 = .ok (.return_, 1) := by decide +kernel
theorem dX0_u4_0 : decode cX0_u4 0 = .ok (.aload_n 0, 1) := by decide +kernel
theorem dX0_u4_1 : decode cX0_u4 1 = .ok (.iload_n 1, 1) := by decide +kernel
theorem dX0_u4_2 : decode cX0_u4 2 = .ok (.bipush 16, 2) := by decide +kernel
theorem dX0_u4_4 : decode cX0_u4 4 = .ok (.ishr, 1) := by decide +kernel
theorem dX0_u4_5 : decode cX0_u4 5 = .ok (.invokevirtual 68, 3) := by decide +kernel
theorem dX0_u4_8 : decode cX0_u4 8 = .ok (.aload_n 0, 1) := by decide +kernel
theorem dX0_u4_9 : decode cX0_u4 9 = .ok (.iload_n 1, 1) := by decide +kernel
theorem dX0_u4_10 : decode cX0_u4 10 = .ok (.invokevirtual 68, 3) := by decide +kernel
theorem dX0_u4_13 : decode cX0_u4 13 = .ok (.return_, 1) := by decide +kernel
theorem dX0_u2_0 : decode cX0_u2 0 = .ok (.aload_n 0, 1) := by decide +kernel
theorem dX0_u2_1 : decode cX0_u2 1 = .ok (.iload_n 1, 1) := by decide +kernel
theorem dX0_u2_2 : decode cX0_u2 2 = .ok (.bipush 8, 2) := by decide +kernel
theorem dX0_u2_4 : decode cX0_u2 4 = .ok (.ishr, 1) := by decide +kernel
theorem dX0_u2_5 : decode cX0_u2 5 = .ok (.invokevirtual 126, 3) := by decide +kernel
theorem dX0_u2_8 : decode cX0_u2 8 = .ok (.aload_n 0, 1) := by decide +kernel
theorem dX0_u2_9 : decode cX0_u2 9 = .ok (.iload_n 1, 1) := by decide +kernel
theorem dX0_u2_10 : decode cX0_u2 10 = .ok (.invokevirtual 126, 3) := by decide +kernel
theorem dX0_u2_13 : decode cX0_u2 13 = .ok (.return_, 1) := by decide +kernel
theorem dX0_u1_0 : decode cX0_u1 0 = .ok (.aload_n 0, 1) := by decide +kernel
theorem dX0_u1_1 : decode cX0_u1 1 = .ok (.getfield 28, 3) := by decide +kernel
theorem dX0_u1_4 : decode cX0_u1 4 = .ok (.ifCond .lt 36, 3) := by decide +kernel
theorem dX0_u1_7 : decode cX0_u1 7 = .ok (.aload_n 0, 1) := by decide +kernel
theorem dX0_u1_8 : decode cX0_u1 8 = .ok (.getfield 28, 3) := by decide +kernel
theorem dX0_u1_11 : decode cX0_u1 11 = .ok (.aload_n 0, 1) := by decide +kernel
theorem dX0_u1_12 : decode cX0_u1 12 = .ok (.getfield 11, 3) := by decide +kernel
theorem dX0_u1_15 : decode cX0_u1 15 = .ok (.arraylength, 1) := by decide +kernel
theorem dX0_u1_16 : decode cX0_u1 16 = .ok (.if_icmp .ge 24, 3) := by decide +kernel
theorem dX0_u1_19 : decode cX0_u1 19 = .ok (.aload_n 0, 1) := by decide +kernel
theorem dX0_u1_20 : decode cX0_u1 20 = .ok (.getfield 11, 3) := by decide +kernel
theorem dX0_u1_23 : decode cX0_u1 23 = .ok (.aload_n 0, 1) := by decide +kernel
theorem dX0_u1_24 : decode cX0_u1 24 = .ok (.getfield 28, 3) := by decide +kernel
theorem dX0_u1_27 : decode cX0_u1 27 = .ok (.iload_n 1, 1) := by decide +kernel
theorem dX0_u1_28 : decode cX0_u1 28 = .ok (.i2b, 1) := by decide +kernel
theorem dX0_u1_29 : decode cX0_u1 29 = .ok (.bastore, 1) := by decide +kernel
theorem dX0_u1_30 : decode cX0_u1 30 = .ok (.aload_n 0, 1) := by decide +kernel
theorem dX0_u1_31 : decode cX0_u1 31 = .ok (.dup, 1) := by decide +kernel
theorem dX0_u1_32 : decode cX0_u1 32 = .ok (.getfield 28, 3) := by decide +kernel
theorem dX0_u1_35 : decode cX0_u1 35 = .ok (.iconst 1, 1) := by decide +kernel
theorem dX0_u1_36 : decode cX0_u1 36 = .ok (.iadd, 1) := by decide +kernel
theorem dX0_u1_37 : decode cX0_u1 37 = .ok (.putfield 28, 3) := by decide +kernel
theorem dX0_u1_40 : decode cX0_u1 40 = .ok (.return_, 1) := by decide +kernel
theorem dX1_init_0 : decode cX1_init 0 = .ok (.aload_n 0, 1) := by decide +kernel
theorem dX1_init_1 : decode cX1_init 1 = .ok (.invokespecial 3, 3) := by decide +kernel
theorem dX1_init_4 : decode cX1_init 4 = .ok (.aload_n 0, 1) := by decide +kernel
theorem dX1_init_5 : decode cX1_init 5 = .ok (.aload_n 1, 1) := by decide +kernel
theorem dX1_init_6 : decode cX1_init 6 = .ok (.putfield 9, 3) := by decide +kernel
theorem dX1_init_9 : decode cX1_init 9 = .ok (.return_, 1) := by decide +kernel
theorem dX1_enter_0 : decode cX1_enter 0 = .ok (.aload_n 2, 1) := by decide +kernel
theorem dX1_enter_1 : decode cX1_enter 1 = .ok (.invokevirtual 15, 3) := by decide +kernel
theorem dX1_enter_4 : decode cX1_enter 4 = .ok (.ifCond .ne 14, 3) := by decide +kernel
theorem dX1_enter_7 : decode cX1_enter 7 = .ok (.aload_n 1, 1) := by decide +kernel
theorem dX1_enter_8 : decode cX1_enter 8 = .ok (.iconst 5, 1) := by decide +kernel
theorem dX1_enter_9 : decode cX1_enter 9 = .ok (.aload_n 2, 1) := by decide +kernel
theorem dX1_enter_10 : decode cX1_enter 10 = .ok (.getfield 21, 3) := by decide +kernel
theorem dX1_enter_13 : decode cX1_enter 13 = .ok (.invokevirtual 25, 3) := by decide +kernel
theorem dX1_enter_16 : decode cX1_enter 16 = .ok (.iconst 0, 1) := by decide +kernel
theorem dX1_enter_17 : decode cX1_enter 17 = .ok (.ireturn, 1) := by decide +kernel
theorem dX1_enter_18 : decode cX1_enter 18 = .ok (.iconst 1, 1) := by decide +kernel
theorem dX1_enter_19 : decode cX1_enter 19 = .ok (.istore 4, 2) := by decide +kernel
theorem dX1_enter_21 : decode cX1_enter 21 = .ok (.iconst 0, 1) := by decide +kernel
theorem dX1_enter_22 : decode cX1_enter 22 = .ok (.istore 5, 2) := by decide +kernel
theorem dX1_enter_24 : decode cX1_enter 24 = .ok (.iload 5, 2) := by decide +kernel
theorem dX1_enter_26 : decode cX1_enter 26 = .ok (.sipush 1000, 3) := by decide +kernel
theorem dX1_enter_29 : decode cX1_enter 29 = .ok (.if_icmp .gt 63, 3) := by decide +kernel
theorem dX1_enter_32 : decode cX1_enter 32 = .ok (.aload_n 2, 1) := by decide +kernel
theorem dX1_enter_33 : decode cX1_enter 33 = .ok (.iload 4, 2) := by decide +kernel
theorem dX1_enter_35 : decode cX1_enter 35 = .ok (.invokevirtual 31, 3) := by decide +kernel
theorem dX1_enter_38 : decode cX1_enter 38 = .ok (.astore 6, 2) := by decide +kernel
theorem dX1_enter_40 : decode cX1_enter 40 = .ok (.aload 6, 2) := by decide +kernel
theorem dX1_enter_42 : decode cX1_enter 42 = .ok (.ifnonnull 5, 3) := by decide +kernel
theorem dX1_enter_45 : decode cX1_enter 45 = .ok (.iconst 1, 1) := by decide +kernel
theorem dX1_enter_46 : decode cX1_enter 46 = .ok (.ireturn, 1) := by decide +kernel
theorem dX1_enter_47 : decode cX1_enter 47 = .ok (.aload_n 1, 1) := by decide +kernel
theorem dX1_enter_48 : decode cX1_enter 48 = .ok (.invokevirtual 35, 3) := by decide +kernel
theorem dX1_enter_51 : decode cX1_enter 51 = .ok (.ifCond .ne 15, 3) := by decide +kernel
theorem dX1_enter_54 : decode cX1_enter 54 = .ok (.aload_n 1, 1) := by decide +kernel
theorem dX1_enter_55 : decode cX1_enter 55 = .ok (.bipush 7, 2) := by decide +kernel
theorem dX1_enter_57 : decode cX1_enter 57 = .ok (.aload_n 2, 1) := by decide +kernel
theorem dX1_enter_58 : decode cX1_enter 58 = .ok (.getfield 21, 3) := by decide +kernel
theorem dX1_enter_61 : decode cX1_enter 61 = .ok (.invokevirtual 25, 3) := by decide +kernel
theorem dX1_enter_64 : decode cX1_enter 64 = .ok (.iconst 0, 1) := by decide +kernel
theorem dX1_enter_65 : decode cX1_enter 65 = .ok (.ireturn, 1) := by decide +kernel
theorem dX1_enter_66 : decode cX1_enter 66 = .ok (.aload_n 0, 1) := by decide +kernel
theorem dX1_enter_67 : decode cX1_enter 67 = .ok (.aload_n 1, 1) := by decide +kernel
theorem dX1_enter_68 : decode cX1_enter 68 = .ok (.aload_n 2, 1) := by decide +kernel
theorem dX1_enter_69 : decode cX1_enter 69 = .ok (.aload 6, 2) := by decide +kernel
theorem dX1_enter_71 : decode cX1_enter 71 = .ok (.iload 4, 2) := by decide +kernel
theorem dX1_enter_73 : decode cX1_enter 73 = .ok (.iload_n 3, 1) := by decide +kernel
theorem dX1_enter_74 : decode cX1_enter 74 = .ok (.invokevirtual 38, 3) := by decide +kernel
theorem dX1_enter_77 : decode cX1_enter 77 = .ok (.istore 4, 2) := by decide +kernel
theorem dX1_enter_79 : decode cX1_enter 79 = .ok (.iload 4, 2) := by decide +kernel
theorem dX1_enter_81 : decode cX1_enter 81 = .ok (.ifCond .ne 5, 3) := by decide +kernel
theorem dX1_enter_84 : decode cX1_enter 84 = .ok (.iconst 0, 1) := by decide +kernel
theorem dX1_enter_85 : decode cX1_enter 85 = .ok (.ireturn, 1) := by decide +kernel
theorem dX1_enter_86 : decode cX1_enter 86 = .ok (.iinc 5 1, 3) := by decide +kernel
theorem dX1_enter_89 : decode cX1_enter 89 = .ok (.goto (-65), 3) := by decide +kernel
theorem dX1_enter_92 : decode cX1_enter 92 = .ok (.iconst 0, 1) := by decide +kernel
theorem dX1_enter_93 : decode cX1_enter 93 = .ok (.ireturn, 1) := by decide +kernel
theorem dX1_follow_0 : decode cX1_follow 0 = .ok (.aload_n 3, 1) := by decide +kernel
theorem dX1_follow_1 : decode cX1_follow 1 = .ok (.getfield 42, 3) := by decide +kernel
theorem dX1_follow_4 : decode cX1_follow 4 = .ok (.tableswitch 115 8 12 #[36, 59, 64, 88, 101], 36) := by decide +kernel
theorem dX1_follow_40 : decode cX1_follow 40 = .ok (.aload_n 2, 1) := by decide +kernel
theorem dX1_follow_41 : decode cX1_follow 41 = .ok (.aload_n 3, 1) := by decide +kernel
theorem dX1_follow_42 : decode cX1_follow 42 = .ok (.getfield 48, 3) := by decide +kernel
theorem dX1_follow_45 : decode cX1_follow 45 = .ok (.invokevirtual 51, 3) := by decide +kernel
theorem dX1_follow_48 : decode cX1_follow 48 = .ok (.ifCond .ne 10, 3) := by decide +kernel
theorem dX1_follow_51 : decode cX1_follow 51 = .ok (.aload_n 3, 1) := by decide +kernel
theorem dX1_follow_52 : decode cX1_follow 52 = .ok (.getfield 55, 3) := by decide +kernel
theorem dX1_follow_55 : decode cX1_follow 55 = .ok (.goto 7, 3) := by decide +kernel
theorem dX1_follow_58 : decode cX1_follow 58 = .ok (.iload 4, 2) := by decide +kernel
theorem dX1_follow_60 : decode cX1_follow 60 = .ok (.iconst 1, 1) := by decide +kernel
theorem dX1_follow_61 : decode cX1_follow 61 = .ok (.iadd, 1) := by decide +kernel
theorem dX1_follow_62 : decode cX1_follow 62 = .ok (.ireturn, 1) := by decide +kernel
theorem dX1_follow_63 : decode cX1_follow 63 = .ok (.aload_n 3, 1) := by decide +kernel
theorem dX1_follow_64 : decode cX1_follow 64 = .ok (.getfield 55, 3) := by decide +kernel
theorem dX1_follow_67 : decode cX1_follow 67 = .ok (.ireturn, 1) := by decide +kernel
theorem dX1_follow_68 : decode cX1_follow 68 = .ok (.aload_n 0, 1) := by decide +kernel
theorem dX1_follow_69 : decode cX1_follow 69 = .ok (.aload_n 1, 1) := by decide +kernel
theorem dX1_follow_70 : decode cX1_follow 70 = .ok (.aload_n 2, 1) := by decide +kernel
theorem dX1_follow_71 : decode cX1_follow 71 = .ok (.aload_n 3, 1) := by decide +kernel
theorem dX1_follow_72 : decode cX1_follow 72 = .ok (.getfield 48, 3) := by decide +kernel
theorem dX1_follow_75 : decode cX1_follow 75 = .ok (.iload 5, 2) := by decide +kernel
theorem dX1_follow_77 : decode cX1_follow 77 = .ok (.invokevirtual 58, 3) := by decide +kernel
theorem dX1_follow_80 : decode cX1_follow 80 = .ok (.ifCond .eq 10, 3) := by decide +kernel
theorem dX1_follow_83 : decode cX1_follow 83 = .ok (.iload 4, 2) := by decide +kernel
theorem dX1_follow_85 : decode cX1_follow 85 = .ok (.iconst 1, 1) := by decide +kernel
theorem dX1_follow_86 : decode cX1_follow 86 = .ok (.iadd, 1) := by decide +kernel
theorem dX1_follow_87 : decode cX1_follow 87 = .ok (.goto 4, 3) := by decide +kernel
theorem dX1_follow_90 : decode cX1_follow 90 = .ok (.iconst 0, 1) := by decide +kernel
theorem dX1_follow_91 : decode cX1_follow 91 = .ok (.ireturn, 1) := by decide +kernel
theorem dX1_follow_92 : decode cX1_follow 92 = .ok (.aload_n 1, 1) := by decide +kernel
theorem dX1_follow_93 : decode cX1_follow 93 = .ok (.aload_n 3, 1) := by decide +kernel
theorem dX1_follow_94 : decode cX1_follow 94 = .ok (.getfield 48, 3) := by decide +kernel
theorem dX1_follow_97 : decode cX1_follow 97 = .ok (.invokevirtual 62, 3) := by decide +kernel
theorem dX1_follow_100 : decode cX1_follow 100 = .ok (.iload 4, 2) := by decide +kernel
theorem dX1_follow_102 : decode cX1_follow 102 = .ok (.iconst 1, 1) := by decide +kernel
theorem dX1_follow_103 : decode cX1_follow 103 = .ok (.iadd, 1) := by decide +kernel
theorem dX1_follow_104 : decode cX1_follow 104 = .ok (.ireturn, 1) := by decide +kernel
theorem dX1_follow_105 : decode cX1_follow 105 = .ok (.aload_n 1, 1) := by decide +kernel
theorem dX1_follow_106 : decode cX1_follow 106 = .ok (.aload_n 3, 1) := by decide +kernel
theorem dX1_follow_107 : decode cX1_follow 107 = .ok (.getfield 48, 3) := by decide +kernel
theorem dX1_follow_110 : decode cX1_follow 110 = .ok (.aload_n 2, 1) := by decide +kernel
theorem dX1_follow_111 : decode cX1_follow 111 = .ok (.getfield 21, 3) := by decide +kernel
theorem dX1_follow_114 : decode cX1_follow 114 = .ok (.invokevirtual 66, 3) := by decide +kernel
theorem dX1_follow_117 : decode cX1_follow 117 = .ok (.iconst 0, 1) := by decide +kernel
theorem dX1_follow_118 : decode cX1_follow 118 = .ok (.ireturn, 1) := by decide +kernel
theorem dX1_follow_119 : decode cX1_follow 119 = .ok (.aload_n 2, 1) := by decide +kernel
theorem dX1_follow_120 : decode cX1_follow 120 = .ok (.aload_n 3, 1) := by decide +kernel
theorem dX1_follow_121 : decode cX1_follow 121 = .ok (.invokevirtual 69, 3) := by decide +kernel
theorem dX1_follow_124 : decode cX1_follow 124 = .ok (.istore 6, 2) := by decide +kernel
theorem dX1_follow_126 : decode cX1_follow 126 = .ok (.iload 6, 2) := by decide +kernel
theorem dX1_follow_128 : decode cX1_follow 128 = .ok (.ifCond .ne 8, 3) := by decide +kernel
theorem dX1_follow_131 : decode cX1_follow 131 = .ok (.iload 4, 2) := by decide +kernel
theorem dX1_follow_133 : decode cX1_follow 133 = .ok (.iconst 1, 1) := by decide +kernel
theorem dX1_follow_134 : decode cX1_follow 134 = .ok (.iadd, 1) := by decide +kernel
theorem dX1_follow_135 : decode cX1_follow 135 = .ok (.ireturn, 1) := by decide +kernel
theorem dX1_follow_136 : decode cX1_follow 136 = .ok (.aload_n 1, 1) := by decide +kernel
theorem dX1_follow_137 : decode cX1_follow 137 = .ok (.iload 6, 2) := by decide +kernel
theorem dX1_follow_139 : decode cX1_follow 139 = .ok (.aload_n 2, 1) := by decide +kernel
theorem dX1_follow_140 : decode cX1_follow 140 = .ok (.getfield 21, 3) := by decide +kernel
theorem dX1_follow_143 : decode cX1_follow 143 = .ok (.invokevirtual 25, 3) := by decide +kernel
theorem dX1_follow_146 : decode cX1_follow 146 = .ok (.iconst 0, 1) := by decide +kernel
theorem dX1_follow_147 : decode cX1_follow 147 = .ok (.ireturn, 1) := by decide +kernel
theorem dX1_callProgram_0 : decode cX1_callProgram 0 = .ok (.iload 4, 2) := by decide +kernel
theorem dX1_callProgram_2 : decode cX1_callProgram 2 = .ok (.bipush 10, 2) := by decide +kernel
theorem dX1_callProgram_4 : decode cX1_callProgram 4 = .ok (.if_icmp .lt 14, 3) := by decide +kernel
theorem dX1_callProgram_7 : decode cX1_callProgram 7 = .ok (.aload_n 1, 1) := by decide +kernel
theorem dX1_callProgram_8 : decode cX1_callProgram 8 = .ok (.iconst 3, 1) := by decide +kernel
theorem dX1_callProgram_9 : decode cX1_callProgram 9 = .ok (.aload_n 2, 1) := by decide +kernel
theorem dX1_callProgram_10 : decode cX1_callProgram 10 = .ok (.getfield 21, 3) := by decide +kernel
theorem dX1_callProgram_13 : decode cX1_callProgram 13 = .ok (.invokevirtual 25, 3) := by decide +kernel
theorem dX1_callProgram_16 : decode cX1_callProgram 16 = .ok (.iconst 0, 1) := by decide +kernel
theorem dX1_callProgram_17 : decode cX1_callProgram 17 = .ok (.ireturn, 1) := by decide +kernel
theorem dX1_callProgram_18 : decode cX1_callProgram 18 = .ok (.aload_n 0, 1) := by decide +kernel
theorem dX1_callProgram_19 : decode cX1_callProgram 19 = .ok (.aload_n 1, 1) := by decide +kernel
theorem dX1_callProgram_20 : decode cX1_callProgram 20 = .ok (.aload_n 0, 1) := by decide +kernel
theorem dX1_callProgram_21 : decode cX1_callProgram 21 = .ok (.getfield 9, 3) := by decide +kernel
theorem dX1_callProgram_24 : decode cX1_callProgram 24 = .ok (.iload_n 3, 1) := by decide +kernel
theorem dX1_callProgram_25 : decode cX1_callProgram 25 = .ok (.invokevirtual 73, 3) := by decide +kernel
theorem dX1_callProgram_28 : decode cX1_callProgram 28 = .ok (.invokevirtual 79, 3) := by decide +kernel
theorem dX1_callProgram_31 : decode cX1_callProgram 31 = .ok (.astore 5, 2) := by decide +kernel
theorem dX1_callProgram_33 : decode cX1_callProgram 33 = .ok (.aload 5, 2) := by decide +kernel
theorem dX1_callProgram_35 : decode cX1_callProgram 35 = .ok (.ifnonnull 15, 3) := by decide +kernel
theorem dX1_callProgram_38 : decode cX1_callProgram 38 = .ok (.aload_n 1, 1) := by decide +kernel
theorem dX1_callProgram_39 : decode cX1_callProgram 39 = .ok (.bipush 6, 2) := by decide +kernel
theorem dX1_callProgram_41 : decode cX1_callProgram 41 = .ok (.aload_n 2, 1) := by decide +kernel
theorem dX1_callProgram_42 : decode cX1_callProgram 42 = .ok (.getfield 21, 3) := by decide +kernel
theorem dX1_callProgram_45 : decode cX1_callProgram 45 = .ok (.invokevirtual 25, 3) := by decide +kernel
theorem dX1_callProgram_48 : decode cX1_callProgram 48 = .ok (.iconst 0, 1) := by decide +kernel
theorem dX1_callProgram_49 : decode cX1_callProgram 49 = .ok (.ireturn, 1) := by decide +kernel
theorem dX1_callProgram_50 : decode cX1_callProgram 50 = .ok (.aload_n 0, 1) := by decide +kernel
theorem dX1_callProgram_51 : decode cX1_callProgram 51 = .ok (.aload_n 1, 1) := by decide +kernel
theorem dX1_callProgram_52 : decode cX1_callProgram 52 = .ok (.aload 5, 2) := by decide +kernel
theorem dX1_callProgram_54 : decode cX1_callProgram 54 = .ok (.iload 4, 2) := by decide +kernel
theorem dX1_callProgram_56 : decode cX1_callProgram 56 = .ok (.iconst 1, 1) := by decide +kernel
theorem dX1_callProgram_57 : decode cX1_callProgram 57 = .ok (.iadd, 1) := by decide +kernel
theorem dX1_callProgram_58 : decode cX1_callProgram 58 = .ok (.invokevirtual 83, 3) := by decide +kernel
theorem dX1_callProgram_61 : decode cX1_callProgram 61 = .ok (.ireturn, 1) := by decide +kernel
theorem dX1_calledClass_0 : decode cX1_calledClass 0 = .ok (.aload_n 2, 1) := by decide +kernel
theorem dX1_calledClass_1 : decode cX1_calledClass 1 = .ok (.ifnonnull 5, 3) := by decide +kernel
theorem dX1_calledClass_4 : decode cX1_calledClass 4 = .ok (.aconst_null, 1) := by decide +kernel
theorem dX1_calledClass_5 : decode cX1_calledClass 5 = .ok (.areturn, 1) := by decide +kernel
theorem dX1_calledClass_6 : decode cX1_calledClass 6 = .ok (.aload_n 1, 1) := by decide +kernel
theorem dX1_calledClass_7 : decode cX1_calledClass 7 = .ok (.aload_n 2, 1) := by decide +kernel
theorem dX1_calledClass_8 : decode cX1_calledClass 8 = .ok (.invokevirtual 87, 3) := by decide +kernel
theorem dX1_calledClass_11 : decode cX1_calledClass 11 = .ok (.astore_n 3, 1) := by decide +kernel
theorem dX1_calledClass_12 : decode cX1_calledClass 12 = .ok (.aload_n 3, 1) := by decide +kernel
theorem dX1_calledClass_13 : decode cX1_calledClass 13 = .ok (.ifnull 7, 3) := by decide +kernel
theorem dX1_calledClass_16 : decode cX1_calledClass 16 = .ok (.aload_n 3, 1) := by decide +kernel
theorem dX1_calledClass_17 : decode cX1_calledClass 17 = .ok (.goto 12, 3) := by decide +kernel
theorem dX1_calledClass_20 : decode cX1_calledClass 20 = .ok (.aload_n 0, 1) := by decide +kernel
theorem dX1_calledClass_21 : decode cX1_calledClass 21 = .ok (.getfield 9, 3) := by decide +kernel
theorem dX1_calledClass_24 : decode cX1_calledClass 24 = .ok (.aload_n 1, 1) := by decide +kernel
theorem dX1_calledClass_25 : decode cX1_calledClass 25 = .ok (.aload_n 2, 1) := by decide +kernel
theorem dX1_calledClass_26 : decode cX1_calledClass 26 = .ok (.invokevirtual 91, 3) := by decide +kernel
theorem dX1_calledClass_29 : decode cX1_calledClass 29 = .ok (.areturn, 1) := by decide +kernel
theorem dX2_init_0 : decode cX2_init 0 = .ok (.aload_n 0, 1) := by decide +kernel
theorem dX2_init_1 : decode cX2_init 1 = .ok (.invokespecial 3, 3) := by decide +kernel
theorem dX2_init_4 : decode cX2_init 4 = .ok (.aload_n 0, 1) := by decide +kernel
theorem dX2_init_5 : decode cX2_init 5 = .ok (.iload_n 1, 1) := by decide +kernel
theorem dX2_init_6 : decode cX2_init 6 = .ok (.putfield 9, 3) := by decide +kernel
theorem dX2_init_9 : decode cX2_init 9 = .ok (.aload_n 0, 1) := by decide +kernel
theorem dX2_init_10 : decode cX2_init 10 = .ok (.aload_n 2, 1) := by decide +kernel
theorem dX2_init_11 : decode cX2_init 11 = .ok (.putfield 15, 3) := by decide +kernel
theorem dX2_init_14 : decode cX2_init 14 = .ok (.aload_n 0, 1) := by decide +kernel
theorem dX2_init_15 : decode cX2_init 15 = .ok (.aload_n 3, 1) := by decide +kernel
theorem dX2_init_16 : decode cX2_init 16 = .ok (.putfield 19, 3) := by decide +kernel
theorem dX2_init_19 : decode cX2_init 19 = .ok (.aload_n 0, 1) := by decide +kernel
theorem dX2_init_20 : decode cX2_init 20 = .ok (.aload_n 3, 1) := by decide +kernel
theorem dX2_init_21 : decode cX2_init 21 = .ok (.getfield 23, 3) := by decide +kernel
theorem dX2_init_24 : decode cX2_init 24 = .ok (.putfield 28, 3) := by decide +kernel
theorem dX2_init_27 : decode cX2_init 27 = .ok (.aload_n 0, 1) := by decide +kernel
theorem dX2_init_28 : decode cX2_init 28 = .ok (.aload_n 3, 1) := by decide +kernel
theorem dX2_init_29 : decode cX2_init 29 = .ok (.getfield 29, 3) := by decide +kernel
theorem dX2_init_32 : decode cX2_init 32 = .ok (.newarray .byte, 2) := by decide +kernel
theorem dX2_init_34 : decode cX2_init 34 = .ok (.putfield 32, 3) := by decide +kernel
theorem dX2_init_37 : decode cX2_init 37 = .ok (.return_, 1) := by decide +kernel
theorem dX2_start_0 : decode cX2_start 0 = .ok (.aload_n 0, 1) := by decide +kernel
theorem dX2_start_1 : decode cX2_start 1 = .ok (.getfield 36, 3) := by decide +kernel
theorem dX2_start_4 : decode cX2_start 4 = .ok (.ifCond .eq 5, 3) := by decide +kernel
theorem dX2_start_7 : decode cX2_start 7 = .ok (.iconst 1, 1) := by decide +kernel
theorem dX2_start_8 : decode cX2_start 8 = .ok (.ireturn, 1) := by decide +kernel
theorem dX2_start_9 : decode cX2_start 9 = .ok (.aload_n 0, 1) := by decide +kernel
theorem dX2_start_10 : decode cX2_start 10 = .ok (.getfield 19, 3) := by decide +kernel
theorem dX2_start_13 : decode cX2_start 13 = .ok (.getfield 40, 3) := by decide +kernel
theorem dX2_start_16 : decode cX2_start 16 = .ok (.ifCond .eq 10, 3) := by decide +kernel
theorem dX2_start_19 : decode cX2_start 19 = .ok (.aload_n 0, 1) := by decide +kernel
theorem dX2_start_20 : decode cX2_start 20 = .ok (.iconst 1, 1) := by decide +kernel
theorem dX2_start_21 : decode cX2_start 21 = .ok (.putfield 43, 3) := by decide +kernel
theorem dX2_start_24 : decode cX2_start 24 = .ok (.iconst 0, 1) := by decide +kernel
theorem dX2_start_25 : decode cX2_start 25 = .ok (.ireturn, 1) := by decide +kernel
theorem dX2_start_26 : decode cX2_start 26 = .ok (.aload_n 0, 1) := by decide +kernel
theorem dX2_start_27 : decode cX2_start 27 = .ok (.getfield 32, 3) := by decide +kernel
theorem dX2_start_30 : decode cX2_start 30 = .ok (.iconst 0, 1) := by decide +kernel
theorem dX2_start_31 : decode cX2_start 31 = .ok (.invokestatic 46, 3) := by decide +kernel
theorem dX2_start_34 : decode cX2_start 34 = .ok (.aload_n 0, 1) := by decide +kernel
theorem dX2_start_35 : decode cX2_start 35 = .ok (.iconst 1, 1) := by decide +kernel
theorem dX2_start_36 : decode cX2_start 36 = .ok (.putfield 36, 3) := by decide +kernel
theorem dX2_start_39 : decode cX2_start 39 = .ok (.iconst 1, 1) := by decide +kernel
theorem dX2_start_40 : decode cX2_start 40 = .ok (.ireturn, 1) := by decide +kernel
theorem dX2_findRow_0 : decode cX2_findRow 0 = .ok (.iload_n 1, 1) := by decide +kernel
theorem dX2_findRow_1 : decode cX2_findRow 1 = .ok (.aload_n 0, 1) := by decide +kernel
theorem dX2_findRow_2 : decode cX2_findRow 2 = .ok (.getfield 28, 3) := by decide +kernel
theorem dX2_findRow_5 : decode cX2_findRow 5 = .ok (.if_icmp .gt 14, 3) := by decide +kernel
theorem dX2_findRow_8 : decode cX2_findRow 8 = .ok (.aload_n 0, 1) := by decide +kernel
theorem dX2_findRow_9 : decode cX2_findRow 9 = .ok (.getfield 19, 3) := by decide +kernel
theorem dX2_findRow_12 : decode cX2_findRow 12 = .ok (.iload_n 1, 1) := by decide +kernel
theorem dX2_findRow_13 : decode cX2_findRow 13 = .ok (.invokevirtual 52, 3) := by decide +kernel
theorem dX2_findRow_16 : decode cX2_findRow 16 = .ok (.goto 4, 3) := by decide +kernel
theorem dX2_findRow_19 : decode cX2_findRow 19 = .ok (.aconst_null, 1) := by decide +kernel
theorem dX2_findRow_20 : decode cX2_findRow 20 = .ok (.areturn, 1) := by decide +kernel
theorem dX2_hasByte_0 : decode cX2_hasByte 0 = .ok (.iload_n 1, 1) := by decide +kernel
theorem dX2_hasByte_1 : decode cX2_hasByte 1 = .ok (.ifCond .lt 16, 3) := by decide +kernel
theorem dX2_hasByte_4 : decode cX2_hasByte 4 = .ok (.iload_n 1, 1) := by decide +kernel
theorem dX2_hasByte_5 : decode cX2_hasByte 5 = .ok (.aload_n 0, 1) := by decide +kernel
theorem dX2_hasByte_6 : decode cX2_hasByte 6 = .ok (.getfield 32, 3) := by decide +kernel
theorem dX2_hasByte_9 : decode cX2_hasByte 9 = .ok (.arraylength, 1) := by decide +kernel
theorem dX2_hasByte_10 : decode cX2_hasByte 10 = .ok (.if_icmp .ge 7, 3) := by decide +kernel
theorem dX2_hasByte_13 : decode cX2_hasByte 13 = .ok (.iconst 1, 1) := by decide +kernel
theorem dX2_hasByte_14 : decode cX2_hasByte 14 = .ok (.goto 4, 3) := by decide +kernel
theorem dX2_hasByte_17 : decode cX2_hasByte 17 = .ok (.iconst 0, 1) := by decide +kernel
theorem dX2_hasByte_18 : decode cX2_hasByte 18 = .ok (.ireturn, 1) := by decide +kernel
theorem dX2_valueOf_0 : decode cX2_valueOf 0 = .ok (.aload_n 0, 1) := by decide +kernel
theorem dX2_valueOf_1 : decode cX2_valueOf 1 = .ok (.iload_n 1, 1) := by decide +kernel
theorem dX2_valueOf_2 : decode cX2_valueOf 2 = .ok (.invokevirtual 56, 3) := by decide +kernel
theorem dX2_valueOf_5 : decode cX2_valueOf 5 = .ok (.ifCond .eq 12, 3) := by decide +kernel
theorem dX2_valueOf_8 : decode cX2_valueOf 8 = .ok (.aload_n 0, 1) := by decide +kernel
theorem dX2_valueOf_9 : decode cX2_valueOf 9 = .ok (.getfield 32, 3) := by decide +kernel
theorem dX2_valueOf_12 : decode cX2_valueOf 12 = .ok (.iload_n 1, 1) := by decide +kernel
theorem dX2_valueOf_13 : decode cX2_valueOf 13 = .ok (.baload, 1) := by decide +kernel
theorem dX2_valueOf_14 : decode cX2_valueOf 14 = .ok (.goto 4, 3) := by decide +kernel
theorem dX2_valueOf_17 : decode cX2_valueOf 17 = .ok (.iconst 0, 1) := by decide +kernel
theorem dX2_valueOf_18 : decode cX2_valueOf 18 = .ok (.ireturn, 1) := by decide +kernel
theorem dX2_setByte_0 : decode cX2_setByte 0 = .ok (.aload_n 0, 1) := by decide +kernel
theorem dX2_setByte_1 : decode cX2_setByte 1 = .ok (.iload_n 1, 1) := by decide +kernel
theorem dX2_setByte_2 : decode cX2_setByte 2 = .ok (.invokevirtual 56, 3) := by decide +kernel
theorem dX2_setByte_5 : decode cX2_setByte 5 = .ok (.ifCond .ne 5, 3) := by decide +kernel
theorem dX2_setByte_8 : decode cX2_setByte 8 = .ok (.iconst 2, 1) := by decide +kernel
theorem dX2_setByte_9 : decode cX2_setByte 9 = .ok (.ireturn, 1) := by decide +kernel
theorem dX2_setByte_10 : decode cX2_setByte 10 = .ok (.aload_n 0, 1) := by decide +kernel
theorem dX2_setByte_11 : decode cX2_setByte 11 = .ok (.getfield 32, 3) := by decide +kernel
theorem dX2_setByte_14 : decode cX2_setByte 14 = .ok (.iload_n 1, 1) := by decide +kernel
theorem dX2_setByte_15 : decode cX2_setByte 15 = .ok (.iload_n 2, 1) := by decide +kernel
theorem dX2_setByte_16 : decode cX2_setByte 16 = .ok (.i2b, 1) := by decide +kernel
theorem dX2_setByte_17 : decode cX2_setByte 17 = .ok (.bastore, 1) := by decide +kernel
theorem dX2_setByte_18 : decode cX2_setByte 18 = .ok (.iconst 0, 1) := by decide +kernel
theorem dX2_setByte_19 : decode cX2_setByte 19 = .ok (.ireturn, 1) := by decide +kernel
theorem dX2_work_0 : decode cX2_work 0 = .ok (.aload_n 0, 1) := by decide +kernel
theorem dX2_work_1 : decode cX2_work 1 = .ok (.aload_n 1, 1) := by decide +kernel
theorem dX2_work_2 : decode cX2_work 2 = .ok (.getfield 60, 3) := by decide +kernel
theorem dX2_work_5 : decode cX2_work 5 = .ok (.invokevirtual 65, 3) := by decide +kernel
theorem dX2_work_8 : decode cX2_work 8 = .ok (.istore_n 2, 1) := by decide +kernel
theorem dX2_work_9 : decode cX2_work 9 = .ok (.aload_n 0, 1) := by decide +kernel
theorem dX2_work_10 : decode cX2_work 10 = .ok (.aload_n 1, 1) := by decide +kernel
theorem dX2_work_11 : decode cX2_work 11 = .ok (.getfield 69, 3) := by decide +kernel
theorem dX2_work_14 : decode cX2_work 14 = .ok (.invokevirtual 65, 3) := by decide +kernel
theorem dX2_work_17 : decode cX2_work 17 = .ok (.istore_n 3, 1) := by decide +kernel
theorem dX2_work_18 : decode cX2_work 18 = .ok (.aload_n 1, 1) := by decide +kernel
theorem dX2_work_19 : decode cX2_work 19 = .ok (.getfield 72, 3) := by decide +kernel
theorem dX2_work_22 : decode cX2_work 22 = .ok (.tableswitch 190 0 13 #[70, 83, 93, 105, 117, 129, 149, 169, 190, 190, 190, 190, 190, 176], 70) := by decide +kernel
theorem dX2_work_92 : decode cX2_work 92 = .ok (.aload_n 0, 1) := by decide +kernel
theorem dX2_work_93 : decode cX2_work 93 = .ok (.aload_n 1, 1) := by decide +kernel
theorem dX2_work_94 : decode cX2_work 94 = .ok (.getfield 60, 3) := by decide +kernel
theorem dX2_work_97 : decode cX2_work 97 = .ok (.aload_n 1, 1) := by decide +kernel
theorem dX2_work_98 : decode cX2_work 98 = .ok (.getfield 69, 3) := by decide +kernel
theorem dX2_work_101 : decode cX2_work 101 = .ok (.invokevirtual 75, 3) := by decide +kernel
theorem dX2_work_104 : decode cX2_work 104 = .ok (.ireturn, 1) := by decide +kernel
theorem dX2_work_105 : decode cX2_work 105 = .ok (.aload_n 0, 1) := by decide +kernel
theorem dX2_work_106 : decode cX2_work 106 = .ok (.aload_n 1, 1) := by decide +kernel
theorem dX2_work_107 : decode cX2_work 107 = .ok (.getfield 60, 3) := by decide +kernel
theorem dX2_work_110 : decode cX2_work 110 = .ok (.iload_n 3, 1) := by decide +kernel
theorem dX2_work_111 : decode cX2_work 111 = .ok (.invokevirtual 75, 3) := by decide +kernel
theorem dX2_work_114 : decode cX2_work 114 = .ok (.ireturn, 1) := by decide +kernel
theorem dX2_work_115 : decode cX2_work 115 = .ok (.aload_n 0, 1) := by decide +kernel
theorem dX2_work_116 : decode cX2_work 116 = .ok (.aload_n 1, 1) := by decide +kernel
theorem dX2_work_117 : decode cX2_work 117 = .ok (.getfield 60, 3) := by decide +kernel
theorem dX2_work_120 : decode cX2_work 120 = .ok (.iload_n 2, 1) := by decide +kernel
theorem dX2_work_121 : decode cX2_work 121 = .ok (.iload_n 3, 1) := by decide +kernel
theorem dX2_work_122 : decode cX2_work 122 = .ok (.iadd, 1) := by decide +kernel
theorem dX2_work_123 : decode cX2_work 123 = .ok (.invokevirtual 75, 3) := by decide +kernel
theorem dX2_work_126 : decode cX2_work 126 = .ok (.ireturn, 1) := by decide +kernel
theorem dX2_work_127 : decode cX2_work 127 = .ok (.aload_n 0, 1) := by decide +kernel
theorem dX2_work_128 : decode cX2_work 128 = .ok (.aload_n 1, 1) := by decide +kernel
theorem dX2_work_129 : decode cX2_work 129 = .ok (.getfield 60, 3) := by decide +kernel
theorem dX2_work_132 : decode cX2_work 132 = .ok (.iload_n 2, 1) := by decide +kernel
theorem dX2_work_133 : decode cX2_work 133 = .ok (.iload_n 3, 1) := by decide +kernel
theorem dX2_work_134 : decode cX2_work 134 = .ok (.isub, 1) := by decide +kernel
theorem dX2_work_135 : decode cX2_work 135 = .ok (.invokevirtual 75, 3) := by decide +kernel
theorem dX2_work_138 : decode cX2_work 138 = .ok (.ireturn, 1) := by decide +kernel
theorem dX2_work_139 : decode cX2_work 139 = .ok (.aload_n 0, 1) := by decide +kernel
theorem dX2_work_140 : decode cX2_work 140 = .ok (.aload_n 1, 1) := by decide +kernel
theorem dX2_work_141 : decode cX2_work 141 = .ok (.getfield 60, 3) := by decide +kernel
theorem dX2_work_144 : decode cX2_work 144 = .ok (.iload_n 2, 1) := by decide +kernel
theorem dX2_work_145 : decode cX2_work 145 = .ok (.iload_n 3, 1) := by decide +kernel
theorem dX2_work_146 : decode cX2_work 146 = .ok (.imul, 1) := by decide +kernel
theorem dX2_work_147 : decode cX2_work 147 = .ok (.invokevirtual 75, 3) := by decide +kernel
theorem dX2_work_150 : decode cX2_work 150 = .ok (.ireturn, 1) := by decide +kernel
theorem dX2_work_151 : decode cX2_work 151 = .ok (.iload_n 3, 1) := by decide +kernel
theorem dX2_work_152 : decode cX2_work 152 = .ok (.ifCond .ne 7, 3) := by decide +kernel
theorem dX2_work_155 : decode cX2_work 155 = .ok (.iconst 1, 1) := by decide +kernel
theorem dX2_work_156 : decode cX2_work 156 = .ok (.goto 14, 3) := by decide +kernel
theorem dX2_work_159 : decode cX2_work 159 = .ok (.aload_n 0, 1) := by decide +kernel
theorem dX2_work_160 : decode cX2_work 160 = .ok (.aload_n 1, 1) := by decide +kernel
theorem dX2_work_161 : decode cX2_work 161 = .ok (.getfield 60, 3) := by decide +kernel
theorem dX2_work_164 : decode cX2_work 164 = .ok (.iload_n 2, 1) := by decide +kernel
theorem dX2_work_165 : decode cX2_work 165 = .ok (.iload_n 3, 1) := by decide +kernel
theorem dX2_work_166 : decode cX2_work 166 = .ok (.idiv, 1) := by decide +kernel
theorem dX2_work_167 : decode cX2_work 167 = .ok (.invokevirtual 75, 3) := by decide +kernel
theorem dX2_work_170 : decode cX2_work 170 = .ok (.ireturn, 1) := by decide +kernel
theorem dX2_work_171 : decode cX2_work 171 = .ok (.iload_n 3, 1) := by decide +kernel
theorem dX2_work_172 : decode cX2_work 172 = .ok (.ifCond .ne 7, 3) := by decide +kernel
theorem dX2_work_175 : decode cX2_work 175 = .ok (.iconst 1, 1) := by decide +kernel
theorem dX2_work_176 : decode cX2_work 176 = .ok (.goto 14, 3) := by decide +kernel
theorem dX2_work_179 : decode cX2_work 179 = .ok (.aload_n 0, 1) := by decide +kernel
theorem dX2_work_180 : decode cX2_work 180 = .ok (.aload_n 1, 1) := by decide +kernel
theorem dX2_work_181 : decode cX2_work 181 = .ok (.getfield 60, 3) := by decide +kernel
theorem dX2_work_184 : decode cX2_work 184 = .ok (.iload_n 2, 1) := by decide +kernel
theorem dX2_work_185 : decode cX2_work 185 = .ok (.iload_n 3, 1) := by decide +kernel
theorem dX2_work_186 : decode cX2_work 186 = .ok (.irem, 1) := by decide +kernel
theorem dX2_work_187 : decode cX2_work 187 = .ok (.invokevirtual 75, 3) := by decide +kernel
theorem dX2_work_190 : decode cX2_work 190 = .ok (.ireturn, 1) := by decide +kernel
theorem dX2_work_191 : decode cX2_work 191 = .ok (.aload_n 0, 1) := by decide +kernel
theorem dX2_work_192 : decode cX2_work 192 = .ok (.iload_n 2, 1) := by decide +kernel
theorem dX2_work_193 : decode cX2_work 193 = .ok (.iload_n 3, 1) := by decide +kernel
theorem dX2_work_194 : decode cX2_work 194 = .ok (.invokevirtual 75, 3) := by decide +kernel
theorem dX2_work_197 : decode cX2_work 197 = .ok (.ireturn, 1) := by decide +kernel
theorem dX2_work_198 : decode cX2_work 198 = .ok (.iload_n 2, 1) := by decide +kernel
theorem dX2_work_199 : decode cX2_work 199 = .ok (.aload_n 1, 1) := by decide +kernel
theorem dX2_work_200 : decode cX2_work 200 = .ok (.getfield 69, 3) := by decide +kernel
theorem dX2_work_203 : decode cX2_work 203 = .ok (.if_icmp .le 7, 3) := by decide +kernel
theorem dX2_work_206 : decode cX2_work 206 = .ok (.iconst 4, 1) := by decide +kernel
theorem dX2_work_207 : decode cX2_work 207 = .ok (.goto 4, 3) := by decide +kernel
theorem dX2_work_210 : decode cX2_work 210 = .ok (.iconst 0, 1) := by decide +kernel
theorem dX2_work_211 : decode cX2_work 211 = .ok (.ireturn, 1) := by decide +kernel
theorem dX2_work_212 : decode cX2_work 212 = .ok (.iconst 0, 1) := by decide +kernel
theorem dX2_work_213 : decode cX2_work 213 = .ok (.ireturn, 1) := by decide +kernel
theorem dX3_init_0 : decode cX3_init 0 = .ok (.aload_n 0, 1) := by decide +kernel
theorem dX3_init_1 : decode cX3_init 1 = .ok (.invokespecial 3, 3) := by decide +kernel
theorem dX3_init_4 : decode cX3_init 4 = .ok (.aload_n 0, 1) := by decide +kernel
theorem dX3_init_5 : decode cX3_init 5 = .ok (.iload_n 1, 1) := by decide +kernel
theorem dX3_init_6 : decode cX3_init 6 = .ok (.putfield 9, 3) := by decide +kernel
theorem dX3_init_9 : decode cX3_init 9 = .ok (.aload_n 0, 1) := by decide +kernel
theorem dX3_init_10 : decode cX3_init 10 = .ok (.iload_n 2, 1) := by decide +kernel
theorem dX3_init_11 : decode cX3_init 11 = .ok (.putfield 15, 3) := by decide +kernel
theorem dX3_init_14 : decode cX3_init 14 = .ok (.aload_n 0, 1) := by decide +kernel
theorem dX3_init_15 : decode cX3_init 15 = .ok (.iload_n 3, 1) := by decide +kernel
theorem dX3_init_16 : decode cX3_init 16 = .ok (.putfield 18, 3) := by decide +kernel
theorem dX3_init_19 : decode cX3_init 19 = .ok (.aload_n 0, 1) := by decide +kernel
theorem dX3_init_20 : decode cX3_init 20 = .ok (.bipush 60, 2) := by decide +kernel
theorem dX3_init_22 : decode cX3_init 22 = .ok (.anewarray 22, 3) := by decide +kernel
theorem dX3_init_25 : decode cX3_init 25 = .ok (.putfield 24, 3) := by decide +kernel
theorem dX3_init_28 : decode cX3_init 28 = .ok (.return_, 1) := by decide +kernel
theorem dX3_takes_0 : decode cX3_takes 0 = .ok (.iload_n 1, 1) := by decide +kernel
theorem dX3_takes_1 : decode cX3_takes 1 = .ok (.tableswitch 180 0 13 #[71, 97, 97, 97, 97, 97, 97, 97, 119, 141, 147, 164, 164, 71], 71) := by decide +kernel
theorem dX3_takes_72 : decode cX3_takes 72 = .ok (.aload_n 0, 1) := by decide +kernel
theorem dX3_takes_73 : decode cX3_takes 73 = .ok (.iload_n 2, 1) := by decide +kernel
theorem dX3_takes_74 : decode cX3_takes 74 = .ok (.invokevirtual 28, 3) := by decide +kernel
theorem dX3_takes_77 : decode cX3_takes 77 = .ok (.ifCond .eq 19, 3) := by decide +kernel
theorem dX3_takes_80 : decode cX3_takes 80 = .ok (.iload_n 3, 1) := by decide +kernel
theorem dX3_takes_81 : decode cX3_takes 81 = .ok (.bipush (-128), 2) := by decide +kernel
theorem dX3_takes_83 : decode cX3_takes 83 = .ok (.if_icmp .lt 13, 3) := by decide +kernel
theorem dX3_takes_86 : decode cX3_takes 86 = .ok (.iload_n 3, 1) := by decide +kernel
theorem dX3_takes_87 : decode cX3_takes 87 = .ok (.bipush 127, 2) := by decide +kernel
theorem dX3_takes_89 : decode cX3_takes 89 = .ok (.if_icmp .gt 7, 3) := by decide +kernel
theorem dX3_takes_92 : decode cX3_takes 92 = .ok (.iconst 1, 1) := by decide +kernel
theorem dX3_takes_93 : decode cX3_takes 93 = .ok (.goto 4, 3) := by decide +kernel
theorem dX3_takes_96 : decode cX3_takes 96 = .ok (.iconst 0, 1) := by decide +kernel
theorem dX3_takes_97 : decode cX3_takes 97 = .ok (.ireturn, 1) := by decide +kernel
theorem dX3_takes_98 : decode cX3_takes 98 = .ok (.aload_n 0, 1) := by decide +kernel
theorem dX3_takes_99 : decode cX3_takes 99 = .ok (.iload_n 2, 1) := by decide +kernel
theorem dX3_takes_100 : decode cX3_takes 100 = .ok (.invokevirtual 28, 3) := by decide +kernel
theorem dX3_takes_103 : decode cX3_takes 103 = .ok (.ifCond .eq 15, 3) := by decide +kernel
theorem dX3_takes_106 : decode cX3_takes 106 = .ok (.aload_n 0, 1) := by decide +kernel
theorem dX3_takes_107 : decode cX3_takes 107 = .ok (.iload_n 3, 1) := by decide +kernel
theorem dX3_takes_108 : decode cX3_takes 108 = .ok (.invokevirtual 28, 3) := by decide +kernel
theorem dX3_takes_111 : decode cX3_takes 111 = .ok (.ifCond .eq 7, 3) := by decide +kernel
theorem dX3_takes_114 : decode cX3_takes 114 = .ok (.iconst 1, 1) := by decide +kernel
theorem dX3_takes_115 : decode cX3_takes 115 = .ok (.goto 4, 3) := by decide +kernel
theorem dX3_takes_118 : decode cX3_takes 118 = .ok (.iconst 0, 1) := by decide +kernel
theorem dX3_takes_119 : decode cX3_takes 119 = .ok (.ireturn, 1) := by decide +kernel
theorem dX3_takes_120 : decode cX3_takes 120 = .ok (.aload_n 0, 1) := by decide +kernel
theorem dX3_takes_121 : decode cX3_takes 121 = .ok (.iload_n 2, 1) := by decide +kernel
theorem dX3_takes_122 : decode cX3_takes 122 = .ok (.invokevirtual 28, 3) := by decide +kernel
theorem dX3_takes_125 : decode cX3_takes 125 = .ok (.ifCond .eq 15, 3) := by decide +kernel
theorem dX3_takes_128 : decode cX3_takes 128 = .ok (.aload_n 0, 1) := by decide +kernel
theorem dX3_takes_129 : decode cX3_takes 129 = .ok (.iload_n 3, 1) := by decide +kernel
theorem dX3_takes_130 : decode cX3_takes 130 = .ok (.invokevirtual 32, 3) := by decide +kernel
theorem dX3_takes_133 : decode cX3_takes 133 = .ok (.ifCond .eq 7, 3) := by decide +kernel
theorem dX3_takes_136 : decode cX3_takes 136 = .ok (.iconst 1, 1) := by decide +kernel
theorem dX3_takes_137 : decode cX3_takes 137 = .ok (.goto 4, 3) := by decide +kernel
theorem dX3_takes_140 : decode cX3_takes 140 = .ok (.iconst 0, 1) := by decide +kernel
theorem dX3_takes_141 : decode cX3_takes 141 = .ok (.ireturn, 1) := by decide +kernel
theorem dX3_takes_142 : decode cX3_takes 142 = .ok (.aload_n 0, 1) := by decide +kernel
theorem dX3_takes_143 : decode cX3_takes 143 = .ok (.iload_n 3, 1) := by decide +kernel
theorem dX3_takes_144 : decode cX3_takes 144 = .ok (.invokevirtual 32, 3) := by decide +kernel
theorem dX3_takes_147 : decode cX3_takes 147 = .ok (.ireturn, 1) := by decide +kernel
theorem dX3_takes_148 : decode cX3_takes 148 = .ok (.iload_n 2, 1) := by decide +kernel
theorem dX3_takes_149 : decode cX3_takes 149 = .ok (.iconst 1, 1) := by decide +kernel
theorem dX3_takes_150 : decode cX3_takes 150 = .ok (.if_icmp .lt 13, 3) := by decide +kernel
theorem dX3_takes_153 : decode cX3_takes 153 = .ok (.iload_n 2, 1) := by decide +kernel
theorem dX3_takes_154 : decode cX3_takes 154 = .ok (.bipush 12, 2) := by decide +kernel
theorem dX3_takes_156 : decode cX3_takes 156 = .ok (.if_icmp .gt 7, 3) := by decide +kernel
theorem dX3_takes_159 : decode cX3_takes 159 = .ok (.iconst 1, 1) := by decide +kernel
theorem dX3_takes_160 : decode cX3_takes 160 = .ok (.goto 4, 3) := by decide +kernel
theorem dX3_takes_163 : decode cX3_takes 163 = .ok (.iconst 0, 1) := by decide +kernel
theorem dX3_takes_164 : decode cX3_takes 164 = .ok (.ireturn, 1) := by decide +kernel
theorem dX3_takes_165 : decode cX3_takes 165 = .ok (.iload_n 2, 1) := by decide +kernel
theorem dX3_takes_166 : decode cX3_takes 166 = .ok (.ifCond .lt 13, 3) := by decide +kernel
theorem dX3_takes_169 : decode cX3_takes 169 = .ok (.iload_n 2, 1) := by decide +kernel
theorem dX3_takes_170 : decode cX3_takes 170 = .ok (.bipush 127, 2) := by decide +kernel
theorem dX3_takes_172 : decode cX3_takes 172 = .ok (.if_icmp .gt 7, 3) := by decide +kernel
theorem dX3_takes_175 : decode cX3_takes 175 = .ok (.iconst 1, 1) := by decide +kernel
theorem dX3_takes_176 : decode cX3_takes 176 = .ok (.goto 4, 3) := by decide +kernel
theorem dX3_takes_179 : decode cX3_takes 179 = .ok (.iconst 0, 1) := by decide +kernel
theorem dX3_takes_180 : decode cX3_takes 180 = .ok (.ireturn, 1) := by decide +kernel
theorem dX3_takes_181 : decode cX3_takes 181 = .ok (.iconst 0, 1) := by decide +kernel
theorem dX3_takes_182 : decode cX3_takes 182 = .ok (.ireturn, 1) := by decide +kernel
theorem dX3_isByteNumber_0 : decode cX3_isByteNumber 0 = .ok (.iload_n 1, 1) := by decide +kernel
theorem dX3_isByteNumber_1 : decode cX3_isByteNumber 1 = .ok (.ifCond .lt 15, 3) := by decide +kernel
theorem dX3_isByteNumber_4 : decode cX3_isByteNumber 4 = .ok (.iload_n 1, 1) := by decide +kernel
theorem dX3_isByteNumber_5 : decode cX3_isByteNumber 5 = .ok (.aload_n 0, 1) := by decide +kernel
theorem dX3_isByteNumber_6 : decode cX3_isByteNumber 6 = .ok (.getfield 15, 3) := by decide +kernel
theorem dX3_isByteNumber_9 : decode cX3_isByteNumber 9 = .ok (.if_icmp .ge 7, 3) := by decide +kernel
theorem dX3_isByteNumber_12 : decode cX3_isByteNumber 12 = .ok (.iconst 1, 1) := by decide +kernel
theorem dX3_isByteNumber_13 : decode cX3_isByteNumber 13 = .ok (.goto 4, 3) := by decide +kernel
theorem dX3_isByteNumber_16 : decode cX3_isByteNumber 16 = .ok (.iconst 0, 1) := by decide +kernel
theorem dX3_isByteNumber_17 : decode cX3_isByteNumber 17 = .ok (.ireturn, 1) := by decide +kernel
theorem dX3_isTarget_0 : decode cX3_isTarget 0 = .ok (.iload_n 1, 1) := by decide +kernel
theorem dX3_isTarget_1 : decode cX3_isTarget 1 = .ok (.iconst 1, 1) := by decide +kernel
theorem dX3_isTarget_2 : decode cX3_isTarget 2 = .ok (.if_icmp .lt 13, 3) := by decide +kernel
theorem dX3_isTarget_5 : decode cX3_isTarget 5 = .ok (.iload_n 1, 1) := by decide +kernel
theorem dX3_isTarget_6 : decode cX3_isTarget 6 = .ok (.bipush 61, 2) := by decide +kernel
theorem dX3_isTarget_8 : decode cX3_isTarget 8 = .ok (.if_icmp .gt 7, 3) := by decide +kernel
theorem dX3_isTarget_11 : decode cX3_isTarget 11 = .ok (.iconst 1, 1) := by decide +kernel
theorem dX3_isTarget_12 : decode cX3_isTarget 12 = .ok (.goto 4, 3) := by decide +kernel
theorem dX3_isTarget_15 : decode cX3_isTarget 15 = .ok (.iconst 0, 1) := by decide +kernel
theorem dX3_isTarget_16 : decode cX3_isTarget 16 = .ok (.ireturn, 1) := by decide +kernel
theorem dX3_addRow_0 : decode cX3_addRow 0 = .ok (.aload_n 0, 1) := by decide +kernel
theorem dX3_addRow_1 : decode cX3_addRow 1 = .ok (.getfield 35, 3) := by decide +kernel
theorem dX3_addRow_4 : decode cX3_addRow 4 = .ok (.aload_n 0, 1) := by decide +kernel
theorem dX3_addRow_5 : decode cX3_addRow 5 = .ok (.getfield 24, 3) := by decide +kernel
theorem dX3_addRow_8 : decode cX3_addRow 8 = .ok (.arraylength, 1) := by decide +kernel
theorem dX3_addRow_9 : decode cX3_addRow 9 = .ok (.if_icmp .lt 5, 3) := by decide +kernel
theorem dX3_addRow_12 : decode cX3_addRow 12 = .ok (.iconst (-1), 1) := by decide +kernel
theorem dX3_addRow_13 : decode cX3_addRow 13 = .ok (.ireturn, 1) := by decide +kernel
theorem dX3_addRow_14 : decode cX3_addRow 14 = .ok (.aload_n 0, 1) := by decide +kernel
theorem dX3_addRow_15 : decode cX3_addRow 15 = .ok (.getfield 24, 3) := by decide +kernel
theorem dX3_addRow_18 : decode cX3_addRow 18 = .ok (.aload_n 0, 1) := by decide +kernel
theorem dX3_addRow_19 : decode cX3_addRow 19 = .ok (.getfield 35, 3) := by decide +kernel
theorem dX3_addRow_22 : decode cX3_addRow 22 = .ok (.new 22, 3) := by decide +kernel
theorem dX3_addRow_25 : decode cX3_addRow 25 = .ok (.dup, 1) := by decide +kernel
theorem dX3_addRow_26 : decode cX3_addRow 26 = .ok (.iload_n 1, 1) := by decide +kernel
theorem dX3_addRow_27 : decode cX3_addRow 27 = .ok (.iload_n 2, 1) := by decide +kernel
theorem dX3_addRow_28 : decode cX3_addRow 28 = .ok (.iload_n 3, 1) := by decide +kernel
theorem dX3_addRow_29 : decode cX3_addRow 29 = .ok (.invokespecial 38, 3) := by decide +kernel
theorem dX3_addRow_32 : decode cX3_addRow 32 = .ok (.aastore, 1) := by decide +kernel
theorem dX3_addRow_33 : decode cX3_addRow 33 = .ok (.aload_n 0, 1) := by decide +kernel
theorem dX3_addRow_34 : decode cX3_addRow 34 = .ok (.dup, 1) := by decide +kernel
theorem dX3_addRow_35 : decode cX3_addRow 35 = .ok (.getfield 35, 3) := by decide +kernel
theorem dX3_addRow_38 : decode cX3_addRow 38 = .ok (.iconst 1, 1) := by decide +kernel
theorem dX3_addRow_39 : decode cX3_addRow 39 = .ok (.iadd, 1) := by decide +kernel
theorem dX3_addRow_40 : decode cX3_addRow 40 = .ok (.putfield 35, 3) := by decide +kernel
theorem dX3_addRow_43 : decode cX3_addRow 43 = .ok (.aload_n 0, 1) := by decide +kernel
theorem dX3_addRow_44 : decode cX3_addRow 44 = .ok (.getfield 35, 3) := by decide +kernel
theorem dX3_addRow_47 : decode cX3_addRow 47 = .ok (.ireturn, 1) := by decide +kernel
theorem dX3_findRow_0 : decode cX3_findRow 0 = .ok (.iload_n 1, 1) := by decide +kernel
theorem dX3_findRow_1 : decode cX3_findRow 1 = .ok (.iconst 1, 1) := by decide +kernel
theorem dX3_findRow_2 : decode cX3_findRow 2 = .ok (.if_icmp .lt 22, 3) := by decide +kernel
theorem dX3_findRow_5 : decode cX3_findRow 5 = .ok (.iload_n 1, 1) := by decide +kernel
theorem dX3_findRow_6 : decode cX3_findRow 6 = .ok (.aload_n 0, 1) := by decide +kernel
theorem dX3_findRow_7 : decode cX3_findRow 7 = .ok (.getfield 35, 3) := by decide +kernel
theorem dX3_findRow_10 : decode cX3_findRow 10 = .ok (.if_icmp .gt 14, 3) := by decide +kernel
theorem dX3_findRow_13 : decode cX3_findRow 13 = .ok (.aload_n 0, 1) := by decide +kernel
theorem dX3_findRow_14 : decode cX3_findRow 14 = .ok (.getfield 24, 3) := by decide +kernel
theorem dX3_findRow_17 : decode cX3_findRow 17 = .ok (.iload_n 1, 1) := by decide +kernel
theorem dX3_findRow_18 : decode cX3_findRow 18 = .ok (.iconst 1, 1) := by decide +kernel
theorem dX3_findRow_19 : decode cX3_findRow 19 = .ok (.isub, 1) := by decide +kernel
theorem dX3_findRow_20 : decode cX3_findRow 20 = .ok (.aaload, 1) := by decide +kernel
theorem dX3_findRow_21 : decode cX3_findRow 21 = .ok (.goto 4, 3) := by decide +kernel
theorem dX3_findRow_24 : decode cX3_findRow 24 = .ok (.aconst_null, 1) := by decide +kernel
theorem dX3_findRow_25 : decode cX3_findRow 25 = .ok (.areturn, 1) := by decide +kernel
theorem dX4_init_0 : decode cX4_init 0 = .ok (.aload_n 0, 1) := by decide +kernel
theorem dX4_init_1 : decode cX4_init 1 = .ok (.invokespecial 1, 3) := by decide +kernel
theorem dX4_init_4 : decode cX4_init 4 = .ok (.aload_n 0, 1) := by decide +kernel
theorem dX4_init_5 : decode cX4_init 5 = .ok (.iload_n 1, 1) := by decide +kernel
theorem dX4_init_6 : decode cX4_init 6 = .ok (.putfield 7, 3) := by decide +kernel
theorem dX4_init_9 : decode cX4_init 9 = .ok (.aload_n 0, 1) := by decide +kernel
theorem dX4_init_10 : decode cX4_init 10 = .ok (.iload_n 2, 1) := by decide +kernel
theorem dX4_init_11 : decode cX4_init 11 = .ok (.putfield 13, 3) := by decide +kernel
theorem dX4_init_14 : decode cX4_init 14 = .ok (.aload_n 0, 1) := by decide +kernel
theorem dX4_init_15 : decode cX4_init 15 = .ok (.iload_n 3, 1) := by decide +kernel
theorem dX4_init_16 : decode cX4_init 16 = .ok (.putfield 16, 3) := by decide +kernel
theorem dX4_init_19 : decode cX4_init 19 = .ok (.return_, 1) := by decide +kernel
theorem dX5_init_0 : decode cX5_init 0 = .ok (.aload_n 0, 1) := by decide +kernel
theorem dX5_init_1 : decode cX5_init 1 = .ok (.invokespecial 3, 3) := by decide +kernel
theorem dX5_init_4 : decode cX5_init 4 = .ok (.aload_n 0, 1) := by decide +kernel
theorem dX5_init_5 : decode cX5_init 5 = .ok (.bipush 12, 2) := by decide +kernel
theorem dX5_init_7 : decode cX5_init 7 = .ok (.anewarray 9, 3) := by decide +kernel
theorem dX5_init_10 : decode cX5_init 10 = .ok (.putfield 11, 3) := by decide +kernel
theorem dX5_init_13 : decode cX5_init 13 = .ok (.aload_n 0, 1) := by decide +kernel
theorem dX5_init_14 : decode cX5_init 14 = .ok (.bipush 100, 2) := by decide +kernel
theorem dX5_init_16 : decode cX5_init 16 = .ok (.newarray .byte, 2) := by decide +kernel
theorem dX5_init_18 : decode cX5_init 18 = .ok (.putfield 17, 3) := by decide +kernel
theorem dX5_init_21 : decode cX5_init 21 = .ok (.return_, 1) := by decide +kernel
theorem dX5_latestOf_0 : decode cX5_latestOf 0 = .ok (.aload_n 1, 1) := by decide +kernel
theorem dX5_latestOf_1 : decode cX5_latestOf 1 = .ok (.getfield 21, 3) := by decide +kernel
theorem dX5_latestOf_4 : decode cX5_latestOf 4 = .ok (.iconst 1, 1) := by decide +kernel
theorem dX5_latestOf_5 : decode cX5_latestOf 5 = .ok (.isub, 1) := by decide +kernel
theorem dX5_latestOf_6 : decode cX5_latestOf 6 = .ok (.istore_n 2, 1) := by decide +kernel
theorem dX5_latestOf_7 : decode cX5_latestOf 7 = .ok (.iload_n 2, 1) := by decide +kernel
theorem dX5_latestOf_8 : decode cX5_latestOf 8 = .ok (.ifCond .lt 21, 3) := by decide +kernel
theorem dX5_latestOf_11 : decode cX5_latestOf 11 = .ok (.iload_n 2, 1) := by decide +kernel
theorem dX5_latestOf_12 : decode cX5_latestOf 12 = .ok (.aload_n 0, 1) := by decide +kernel
theorem dX5_latestOf_13 : decode cX5_latestOf 13 = .ok (.getfield 11, 3) := by decide +kernel
theorem dX5_latestOf_16 : decode cX5_latestOf 16 = .ok (.arraylength, 1) := by decide +kernel
theorem dX5_latestOf_17 : decode cX5_latestOf 17 = .ok (.if_icmp .ge 12, 3) := by decide +kernel
theorem dX5_latestOf_20 : decode cX5_latestOf 20 = .ok (.aload_n 0, 1) := by decide +kernel
theorem dX5_latestOf_21 : decode cX5_latestOf 21 = .ok (.getfield 11, 3) := by decide +kernel
theorem dX5_latestOf_24 : decode cX5_latestOf 24 = .ok (.iload_n 2, 1) := by decide +kernel
theorem dX5_latestOf_25 : decode cX5_latestOf 25 = .ok (.aaload, 1) := by decide +kernel
theorem dX5_latestOf_26 : decode cX5_latestOf 26 = .ok (.goto 4, 3) := by decide +kernel
theorem dX5_latestOf_29 : decode cX5_latestOf 29 = .ok (.aconst_null, 1) := by decide +kernel
theorem dX5_latestOf_30 : decode cX5_latestOf 30 = .ok (.areturn, 1) := by decide +kernel
theorem dX5_setLatest_0 : decode cX5_setLatest 0 = .ok (.aload_n 1, 1) := by decide +kernel
theorem dX5_setLatest_1 : decode cX5_setLatest 1 = .ok (.getfield 21, 3) := by decide +kernel
theorem dX5_setLatest_4 : decode cX5_setLatest 4 = .ok (.iconst 1, 1) := by decide +kernel
theorem dX5_setLatest_5 : decode cX5_setLatest 5 = .ok (.isub, 1) := by decide +kernel
theorem dX5_setLatest_6 : decode cX5_setLatest 6 = .ok (.istore_n 3, 1) := by decide +kernel
theorem dX5_setLatest_7 : decode cX5_setLatest 7 = .ok (.iload_n 3, 1) := by decide +kernel
theorem dX5_setLatest_8 : decode cX5_setLatest 8 = .ok (.ifCond .lt 19, 3) := by decide +kernel
theorem dX5_setLatest_11 : decode cX5_setLatest 11 = .ok (.iload_n 3, 1) := by decide +kernel
theorem dX5_setLatest_12 : decode cX5_setLatest 12 = .ok (.aload_n 0, 1) := by decide +kernel
theorem dX5_setLatest_13 : decode cX5_setLatest 13 = .ok (.getfield 11, 3) := by decide +kernel
theorem dX5_setLatest_16 : decode cX5_setLatest 16 = .ok (.arraylength, 1) := by decide +kernel
theorem dX5_setLatest_17 : decode cX5_setLatest 17 = .ok (.if_icmp .ge 10, 3) := by decide +kernel
theorem dX5_setLatest_20 : decode cX5_setLatest 20 = .ok (.aload_n 0, 1) := by decide +kernel
theorem dX5_setLatest_21 : decode cX5_setLatest 21 = .ok (.getfield 11, 3) := by decide +kernel
theorem dX5_setLatest_24 : decode cX5_setLatest 24 = .ok (.iload_n 3, 1) := by decide +kernel
theorem dX5_setLatest_25 : decode cX5_setLatest 25 = .ok (.aload_n 2, 1) := by decide +kernel
theorem dX5_setLatest_26 : decode cX5_setLatest 26 = .ok (.aastore, 1) := by decide +kernel
theorem dX5_setLatest_27 : decode cX5_setLatest 27 = .ok (.return_, 1) := by decide +kernel
theorem dX5_beginRun_0 : decode cX5_beginRun 0 = .ok (.aload_n 0, 1) := by decide +kernel
theorem dX5_beginRun_1 : decode cX5_beginRun 1 = .ok (.iconst 1, 1) := by decide +kernel
theorem dX5_beginRun_2 : decode cX5_beginRun 2 = .ok (.putfield 27, 3) := by decide +kernel
theorem dX5_beginRun_5 : decode cX5_beginRun 5 = .ok (.aload_n 0, 1) := by decide +kernel
theorem dX5_beginRun_6 : decode cX5_beginRun 6 = .ok (.iconst 0, 1) := by decide +kernel
theorem dX5_beginRun_7 : decode cX5_beginRun 7 = .ok (.putfield 31, 3) := by decide +kernel
theorem dX5_beginRun_10 : decode cX5_beginRun 10 = .ok (.aload_n 0, 1) := by decide +kernel
theorem dX5_beginRun_11 : decode cX5_beginRun 11 = .ok (.iconst (-1), 1) := by decide +kernel
theorem dX5_beginRun_12 : decode cX5_beginRun 12 = .ok (.putfield 34, 3) := by decide +kernel
theorem dX5_beginRun_15 : decode cX5_beginRun 15 = .ok (.aload_n 0, 1) := by decide +kernel
theorem dX5_beginRun_16 : decode cX5_beginRun 16 = .ok (.iconst (-1), 1) := by decide +kernel
theorem dX5_beginRun_17 : decode cX5_beginRun 17 = .ok (.putfield 37, 3) := by decide +kernel
theorem dX5_beginRun_20 : decode cX5_beginRun 20 = .ok (.aload_n 0, 1) := by decide +kernel
theorem dX5_beginRun_21 : decode cX5_beginRun 21 = .ok (.iconst 0, 1) := by decide +kernel
theorem dX5_beginRun_22 : decode cX5_beginRun 22 = .ok (.putfield 40, 3) := by decide +kernel
theorem dX5_beginRun_25 : decode cX5_beginRun 25 = .ok (.aload_n 0, 1) := by decide +kernel
theorem dX5_beginRun_26 : decode cX5_beginRun 26 = .ok (.iconst 0, 1) := by decide +kernel
theorem dX5_beginRun_27 : decode cX5_beginRun 27 = .ok (.putfield 43, 3) := by decide +kernel
theorem dX5_beginRun_30 : decode cX5_beginRun 30 = .ok (.return_, 1) := by decide +kernel
theorem dX5_takeStep_0 : decode cX5_takeStep 0 = .ok (.aload_n 0, 1) := by decide +kernel
theorem dX5_takeStep_1 : decode cX5_takeStep 1 = .ok (.getfield 40, 3) := by decide +kernel
theorem dX5_takeStep_4 : decode cX5_takeStep 4 = .ok (.sipush 1000, 3) := by decide +kernel
theorem dX5_takeStep_7 : decode cX5_takeStep 7 = .ok (.if_icmp .lt 5, 3) := by decide +kernel
theorem dX5_takeStep_10 : decode cX5_takeStep 10 = .ok (.iconst 0, 1) := by decide +kernel
theorem dX5_takeStep_11 : decode cX5_takeStep 11 = .ok (.ireturn, 1) := by decide +kernel
theorem dX5_takeStep_12 : decode cX5_takeStep 12 = .ok (.aload_n 0, 1) := by decide +kernel
theorem dX5_takeStep_13 : decode cX5_takeStep 13 = .ok (.dup, 1) := by decide +kernel
theorem dX5_takeStep_14 : decode cX5_takeStep 14 = .ok (.getfield 40, 3) := by decide +kernel
theorem dX5_takeStep_17 : decode cX5_takeStep 17 = .ok (.iconst 1, 1) := by decide +kernel
theorem dX5_takeStep_18 : decode cX5_takeStep 18 = .ok (.iadd, 1) := by decide +kernel
theorem dX5_takeStep_19 : decode cX5_takeStep 19 = .ok (.putfield 40, 3) := by decide +kernel
theorem dX5_takeStep_22 : decode cX5_takeStep 22 = .ok (.iconst 1, 1) := by decide +kernel
theorem dX5_takeStep_23 : decode cX5_takeStep 23 = .ok (.ireturn, 1) := by decide +kernel
theorem dX5_noteMark_0 : decode cX5_noteMark 0 = .ok (.aload_n 0, 1) := by decide +kernel
theorem dX5_noteMark_1 : decode cX5_noteMark 1 = .ok (.getfield 43, 3) := by decide +kernel
theorem dX5_noteMark_4 : decode cX5_noteMark 4 = .ok (.aload_n 0, 1) := by decide +kernel
theorem dX5_noteMark_5 : decode cX5_noteMark 5 = .ok (.getfield 17, 3) := by decide +kernel
theorem dX5_noteMark_8 : decode cX5_noteMark 8 = .ok (.arraylength, 1) := by decide +kernel
theorem dX5_noteMark_9 : decode cX5_noteMark 9 = .ok (.if_icmp .ge 24, 3) := by decide +kernel
theorem dX5_noteMark_12 : decode cX5_noteMark 12 = .ok (.aload_n 0, 1) := by decide +kernel
theorem dX5_noteMark_13 : decode cX5_noteMark 13 = .ok (.getfield 17, 3) := by decide +kernel
theorem dX5_noteMark_16 : decode cX5_noteMark 16 = .ok (.aload_n 0, 1) := by decide +kernel
theorem dX5_noteMark_17 : decode cX5_noteMark 17 = .ok (.getfield 43, 3) := by decide +kernel
theorem dX5_noteMark_20 : decode cX5_noteMark 20 = .ok (.iload_n 1, 1) := by decide +kernel
theorem dX5_noteMark_21 : decode cX5_noteMark 21 = .ok (.i2b, 1) := by decide +kernel
theorem dX5_noteMark_22 : decode cX5_noteMark 22 = .ok (.bastore, 1) := by decide +kernel
theorem dX5_noteMark_23 : decode cX5_noteMark 23 = .ok (.aload_n 0, 1) := by decide +kernel
theorem dX5_noteMark_24 : decode cX5_noteMark 24 = .ok (.dup, 1) := by decide +kernel
theorem dX5_noteMark_25 : decode cX5_noteMark 25 = .ok (.getfield 43, 3) := by decide +kernel
theorem dX5_noteMark_28 : decode cX5_noteMark 28 = .ok (.iconst 1, 1) := by decide +kernel
theorem dX5_noteMark_29 : decode cX5_noteMark 29 = .ok (.iadd, 1) := by decide +kernel
theorem dX5_noteMark_30 : decode cX5_noteMark 30 = .ok (.putfield 43, 3) := by decide +kernel
theorem dX5_noteMark_33 : decode cX5_noteMark 33 = .ok (.return_, 1) := by decide +kernel
theorem dX5_markAt_0 : decode cX5_markAt 0 = .ok (.iload_n 1, 1) := by decide +kernel
theorem dX5_markAt_1 : decode cX5_markAt 1 = .ok (.ifCond .lt 29, 3) := by decide +kernel
theorem dX5_markAt_4 : decode cX5_markAt 4 = .ok (.iload_n 1, 1) := by decide +kernel
theorem dX5_markAt_5 : decode cX5_markAt 5 = .ok (.aload_n 0, 1) := by decide +kernel
theorem dX5_markAt_6 : decode cX5_markAt 6 = .ok (.getfield 43, 3) := by decide +kernel
theorem dX5_markAt_9 : decode cX5_markAt 9 = .ok (.if_icmp .ge 21, 3) := by decide +kernel
theorem dX5_markAt_12 : decode cX5_markAt 12 = .ok (.iload_n 1, 1) := by decide +kernel
theorem dX5_markAt_13 : decode cX5_markAt 13 = .ok (.aload_n 0, 1) := by decide +kernel
theorem dX5_markAt_14 : decode cX5_markAt 14 = .ok (.getfield 17, 3) := by decide +kernel
theorem dX5_markAt_17 : decode cX5_markAt 17 = .ok (.arraylength, 1) := by decide +kernel
theorem dX5_markAt_18 : decode cX5_markAt 18 = .ok (.if_icmp .ge 12, 3) := by decide +kernel
theorem dX5_markAt_21 : decode cX5_markAt 21 = .ok (.aload_n 0, 1) := by decide +kernel
theorem dX5_markAt_22 : decode cX5_markAt 22 = .ok (.getfield 17, 3) := by decide +kernel
theorem dX5_markAt_25 : decode cX5_markAt 25 = .ok (.iload_n 1, 1) := by decide +kernel
theorem dX5_markAt_26 : decode cX5_markAt 26 = .ok (.baload, 1) := by decide +kernel
theorem dX5_markAt_27 : decode cX5_markAt 27 = .ok (.goto 4, 3) := by decide +kernel
theorem dX5_markAt_30 : decode cX5_markAt 30 = .ok (.iconst (-1), 1) := by decide +kernel
theorem dX5_markAt_31 : decode cX5_markAt 31 = .ok (.ireturn, 1) := by decide +kernel
theorem dX5_abend_0 : decode cX5_abend 0 = .ok (.aload_n 0, 1) := by decide +kernel
theorem dX5_abend_1 : decode cX5_abend 1 = .ok (.iload_n 1, 1) := by decide +kernel
theorem dX5_abend_2 : decode cX5_abend 2 = .ok (.putfield 31, 3) := by decide +kernel
theorem dX5_abend_5 : decode cX5_abend 5 = .ok (.aload_n 0, 1) := by decide +kernel
theorem dX5_abend_6 : decode cX5_abend 6 = .ok (.aload_n 2, 1) := by decide +kernel
theorem dX5_abend_7 : decode cX5_abend 7 = .ok (.getfield 21, 3) := by decide +kernel
theorem dX5_abend_10 : decode cX5_abend 10 = .ok (.putfield 34, 3) := by decide +kernel
theorem dX5_abend_13 : decode cX5_abend 13 = .ok (.iload_n 1, 1) := by decide +kernel
theorem dX5_abend_14 : decode cX5_abend 14 = .ok (.iconst 5, 1) := by decide +kernel
theorem dX5_abend_15 : decode cX5_abend 15 = .ok (.if_icmp .ne 8, 3) := by decide +kernel
theorem dX5_abend_18 : decode cX5_abend 18 = .ok (.aload_n 0, 1) := by decide +kernel
theorem dX5_abend_19 : decode cX5_abend 19 = .ok (.iconst 1, 1) := by decide +kernel
theorem dX5_abend_20 : decode cX5_abend 20 = .ok (.putfield 46, 3) := by decide +kernel
theorem dX5_abend_23 : decode cX5_abend 23 = .ok (.return_, 1) := by decide +kernel
theorem dX5_stop_0 : decode cX5_stop 0 = .ok (.aload_n 0, 1) := by decide +kernel
theorem dX5_stop_1 : decode cX5_stop 1 = .ok (.iload_n 1, 1) := by decide +kernel
theorem dX5_stop_2 : decode cX5_stop 2 = .ok (.putfield 37, 3) := by decide +kernel
theorem dX5_stop_5 : decode cX5_stop 5 = .ok (.aload_n 0, 1) := by decide +kernel
theorem dX5_stop_6 : decode cX5_stop 6 = .ok (.aload_n 2, 1) := by decide +kernel
theorem dX5_stop_7 : decode cX5_stop 7 = .ok (.getfield 21, 3) := by decide +kernel
theorem dX5_stop_10 : decode cX5_stop 10 = .ok (.putfield 34, 3) := by decide +kernel
theorem dX5_stop_13 : decode cX5_stop 13 = .ok (.aload_n 0, 1) := by decide +kernel
theorem dX5_stop_14 : decode cX5_stop 14 = .ok (.iconst 1, 1) := by decide +kernel
theorem dX5_stop_15 : decode cX5_stop 15 = .ok (.putfield 46, 3) := by decide +kernel
theorem dX5_stop_18 : decode cX5_stop 18 = .ok (.return_, 1) := by decide +kernel
theorem dX6_init_0 : decode cX6_init 0 = .ok (.aload_n 0, 1) := by decide +kernel
theorem dX6_init_1 : decode cX6_init 1 = .ok (.invokespecial 3, 3) := by decide +kernel
theorem dX6_init_4 : decode cX6_init 4 = .ok (.aload_n 0, 1) := by decide +kernel
theorem dX6_init_5 : decode cX6_init 5 = .ok (.bipush 12, 2) := by decide +kernel
theorem dX6_init_7 : decode cX6_init 7 = .ok (.anewarray 9, 3) := by decide +kernel
theorem dX6_init_10 : decode cX6_init 10 = .ok (.putfield 11, 3) := by decide +kernel
theorem dX6_init_13 : decode cX6_init 13 = .ok (.aload_n 0, 1) := by decide +kernel
theorem dX6_init_14 : decode cX6_init 14 = .ok (.bipush 40, 2) := by decide +kernel
theorem dX6_init_16 : decode cX6_init 16 = .ok (.anewarray 17, 3) := by decide +kernel
theorem dX6_init_19 : decode cX6_init 19 = .ok (.putfield 19, 3) := by decide +kernel
theorem dX6_init_22 : decode cX6_init 22 = .ok (.return_, 1) := by decide +kernel
theorem dX6_addProgram_0 : decode cX6_addProgram 0 = .ok (.aload_n 0, 1) := by decide +kernel
theorem dX6_addProgram_1 : decode cX6_addProgram 1 = .ok (.getfield 23, 3) := by decide +kernel
theorem dX6_addProgram_4 : decode cX6_addProgram 4 = .ok (.aload_n 0, 1) := by decide +kernel
theorem dX6_addProgram_5 : decode cX6_addProgram 5 = .ok (.getfield 11, 3) := by decide +kernel
theorem dX6_addProgram_8 : decode cX6_addProgram 8 = .ok (.arraylength, 1) := by decide +kernel
theorem dX6_addProgram_9 : decode cX6_addProgram 9 = .ok (.if_icmp .lt 5, 3) := by decide +kernel
theorem dX6_addProgram_12 : decode cX6_addProgram 12 = .ok (.iconst (-1), 1) := by decide +kernel
theorem dX6_addProgram_13 : decode cX6_addProgram 13 = .ok (.ireturn, 1) := by decide +kernel
theorem dX6_addProgram_14 : decode cX6_addProgram 14 = .ok (.aload_n 0, 1) := by decide +kernel
theorem dX6_addProgram_15 : decode cX6_addProgram 15 = .ok (.getfield 11, 3) := by decide +kernel
theorem dX6_addProgram_18 : decode cX6_addProgram 18 = .ok (.aload_n 0, 1) := by decide +kernel
theorem dX6_addProgram_19 : decode cX6_addProgram 19 = .ok (.getfield 23, 3) := by decide +kernel
theorem dX6_addProgram_22 : decode cX6_addProgram 22 = .ok (.new 9, 3) := by decide +kernel
theorem dX6_addProgram_25 : decode cX6_addProgram 25 = .ok (.dup, 1) := by decide +kernel
theorem dX6_addProgram_26 : decode cX6_addProgram 26 = .ok (.aload_n 0, 1) := by decide +kernel
theorem dX6_addProgram_27 : decode cX6_addProgram 27 = .ok (.getfield 23, 3) := by decide +kernel
theorem dX6_addProgram_30 : decode cX6_addProgram 30 = .ok (.iconst 1, 1) := by decide +kernel
theorem dX6_addProgram_31 : decode cX6_addProgram 31 = .ok (.iadd, 1) := by decide +kernel
theorem dX6_addProgram_32 : decode cX6_addProgram 32 = .ok (.iload_n 1, 1) := by decide +kernel
theorem dX6_addProgram_33 : decode cX6_addProgram 33 = .ok (.iload_n 2, 1) := by decide +kernel
theorem dX6_addProgram_34 : decode cX6_addProgram 34 = .ok (.invokespecial 27, 3) := by decide +kernel
theorem dX6_addProgram_37 : decode cX6_addProgram 37 = .ok (.aastore, 1) := by decide +kernel
theorem dX6_addProgram_38 : decode cX6_addProgram 38 = .ok (.aload_n 0, 1) := by decide +kernel
theorem dX6_addProgram_39 : decode cX6_addProgram 39 = .ok (.dup, 1) := by decide +kernel
theorem dX6_addProgram_40 : decode cX6_addProgram 40 = .ok (.getfield 23, 3) := by decide +kernel
theorem dX6_addProgram_43 : decode cX6_addProgram 43 = .ok (.iconst 1, 1) := by decide +kernel
theorem dX6_addProgram_44 : decode cX6_addProgram 44 = .ok (.iadd, 1) := by decide +kernel
theorem dX6_addProgram_45 : decode cX6_addProgram 45 = .ok (.putfield 23, 3) := by decide +kernel
theorem dX6_addProgram_48 : decode cX6_addProgram 48 = .ok (.aload_n 0, 1) := by decide +kernel
theorem dX6_addProgram_49 : decode cX6_addProgram 49 = .ok (.getfield 23, 3) := by decide +kernel
theorem dX6_addProgram_52 : decode cX6_addProgram 52 = .ok (.ireturn, 1) := by decide +kernel
theorem dX6_findProgram_0 : decode cX6_findProgram 0 = .ok (.iload_n 1, 1) := by decide +kernel
theorem dX6_findProgram_1 : decode cX6_findProgram 1 = .ok (.iconst 1, 1) := by decide +kernel
theorem dX6_findProgram_2 : decode cX6_findProgram 2 = .ok (.if_icmp .lt 22, 3) := by decide +kernel
theorem dX6_findProgram_5 : decode cX6_findProgram 5 = .ok (.iload_n 1, 1) := by decide +kernel
theorem dX6_findProgram_6 : decode cX6_findProgram 6 = .ok (.aload_n 0, 1) := by decide +kernel
theorem dX6_findProgram_7 : decode cX6_findProgram 7 = .ok (.getfield 23, 3) := by decide +kernel
theorem dX6_findProgram_10 : decode cX6_findProgram 10 = .ok (.if_icmp .gt 14, 3) := by decide +kernel
theorem dX6_findProgram_13 : decode cX6_findProgram 13 = .ok (.aload_n 0, 1) := by decide +kernel
theorem dX6_findProgram_14 : decode cX6_findProgram 14 = .ok (.getfield 11, 3) := by decide +kernel
theorem dX6_findProgram_17 : decode cX6_findProgram 17 = .ok (.iload_n 1, 1) := by decide +kernel
theorem dX6_findProgram_18 : decode cX6_findProgram 18 = .ok (.iconst 1, 1) := by decide +kernel
theorem dX6_findProgram_19 : decode cX6_findProgram 19 = .ok (.isub, 1) := by decide +kernel
theorem dX6_findProgram_20 : decode cX6_findProgram 20 = .ok (.aaload, 1) := by decide +kernel
theorem dX6_findProgram_21 : decode cX6_findProgram 21 = .ok (.goto 4, 3) := by decide +kernel
theorem dX6_findProgram_24 : decode cX6_findProgram 24 = .ok (.aconst_null, 1) := by decide +kernel
theorem dX6_findProgram_25 : decode cX6_findProgram 25 = .ok (.areturn, 1) := by decide +kernel
theorem dX6_findClass_0 : decode cX6_findClass 0 = .ok (.iload_n 1, 1) := by decide +kernel
theorem dX6_findClass_1 : decode cX6_findClass 1 = .ok (.iconst 1, 1) := by decide +kernel
theorem dX6_findClass_2 : decode cX6_findClass 2 = .ok (.if_icmp .lt 22, 3) := by decide +kernel
theorem dX6_findClass_5 : decode cX6_findClass 5 = .ok (.iload_n 1, 1) := by decide +kernel
theorem dX6_findClass_6 : decode cX6_findClass 6 = .ok (.aload_n 0, 1) := by decide +kernel
theorem dX6_findClass_7 : decode cX6_findClass 7 = .ok (.getfield 30, 3) := by decide +kernel
theorem dX6_findClass_10 : decode cX6_findClass 10 = .ok (.if_icmp .gt 14, 3) := by decide +kernel
theorem dX6_findClass_13 : decode cX6_findClass 13 = .ok (.aload_n 0, 1) := by decide +kernel
theorem dX6_findClass_14 : decode cX6_findClass 14 = .ok (.getfield 19, 3) := by decide +kernel
theorem dX6_findClass_17 : decode cX6_findClass 17 = .ok (.iload_n 1, 1) := by decide +kernel
theorem dX6_findClass_18 : decode cX6_findClass 18 = .ok (.iconst 1, 1) := by decide +kernel
theorem dX6_findClass_19 : decode cX6_findClass 19 = .ok (.isub, 1) := by decide +kernel
theorem dX6_findClass_20 : decode cX6_findClass 20 = .ok (.aaload, 1) := by decide +kernel
theorem dX6_findClass_21 : decode cX6_findClass 21 = .ok (.goto 4, 3) := by decide +kernel
theorem dX6_findClass_24 : decode cX6_findClass 24 = .ok (.aconst_null, 1) := by decide +kernel
theorem dX6_findClass_25 : decode cX6_findClass 25 = .ok (.areturn, 1) := by decide +kernel
theorem dX6_classFor_0 : decode cX6_classFor 0 = .ok (.aload_n 1, 1) := by decide +kernel
theorem dX6_classFor_1 : decode cX6_classFor 1 = .ok (.aload_n 2, 1) := by decide +kernel
theorem dX6_classFor_2 : decode cX6_classFor 2 = .ok (.invokevirtual 33, 3) := by decide +kernel
theorem dX6_classFor_5 : decode cX6_classFor 5 = .ok (.astore_n 3, 1) := by decide +kernel
theorem dX6_classFor_6 : decode cX6_classFor 6 = .ok (.aload_n 3, 1) := by decide +kernel
theorem dX6_classFor_7 : decode cX6_classFor 7 = .ok (.ifnull 16, 3) := by decide +kernel
theorem dX6_classFor_10 : decode cX6_classFor 10 = .ok (.aload_n 3, 1) := by decide +kernel
theorem dX6_classFor_11 : decode cX6_classFor 11 = .ok (.getfield 39, 3) := by decide +kernel
theorem dX6_classFor_14 : decode cX6_classFor 14 = .ok (.aload_n 2, 1) := by decide +kernel
theorem dX6_classFor_15 : decode cX6_classFor 15 = .ok (.getfield 42, 3) := by decide +kernel
theorem dX6_classFor_18 : decode cX6_classFor 18 = .ok (.if_icmp .ne 5, 3) := by decide +kernel
theorem dX6_classFor_21 : decode cX6_classFor 21 = .ok (.aload_n 3, 1) := by decide +kernel
theorem dX6_classFor_22 : decode cX6_classFor 22 = .ok (.areturn, 1) := by decide +kernel
theorem dX6_classFor_23 : decode cX6_classFor 23 = .ok (.aload_n 0, 1) := by decide +kernel
theorem dX6_classFor_24 : decode cX6_classFor 24 = .ok (.getfield 30, 3) := by decide +kernel
theorem dX6_classFor_27 : decode cX6_classFor 27 = .ok (.aload_n 0, 1) := by decide +kernel
theorem dX6_classFor_28 : decode cX6_classFor 28 = .ok (.getfield 19, 3) := by decide +kernel
theorem dX6_classFor_31 : decode cX6_classFor 31 = .ok (.arraylength, 1) := by decide +kernel
theorem dX6_classFor_32 : decode cX6_classFor 32 = .ok (.if_icmp .lt 5, 3) := by decide +kernel
theorem dX6_classFor_35 : decode cX6_classFor 35 = .ok (.aconst_null, 1) := by decide +kernel
theorem dX6_classFor_36 : decode cX6_classFor 36 = .ok (.areturn, 1) := by decide +kernel
theorem dX6_classFor_37 : decode cX6_classFor 37 = .ok (.aload_n 3, 1) := by decide +kernel
theorem dX6_classFor_38 : decode cX6_classFor 38 = .ok (.ifnull 8, 3) := by decide +kernel
theorem dX6_classFor_41 : decode cX6_classFor 41 = .ok (.aload_n 3, 1) := by decide +kernel
theorem dX6_classFor_42 : decode cX6_classFor 42 = .ok (.iconst 1, 1) := by decide +kernel
theorem dX6_classFor_43 : decode cX6_classFor 43 = .ok (.putfield 43, 3) := by decide +kernel
theorem dX6_classFor_46 : decode cX6_classFor 46 = .ok (.new 17, 3) := by decide +kernel
theorem dX6_classFor_49 : decode cX6_classFor 49 = .ok (.dup, 1) := by decide +kernel
theorem dX6_classFor_50 : decode cX6_classFor 50 = .ok (.aload_n 0, 1) := by decide +kernel
theorem dX6_classFor_51 : decode cX6_classFor 51 = .ok (.getfield 30, 3) := by decide +kernel
theorem dX6_classFor_54 : decode cX6_classFor 54 = .ok (.iconst 1, 1) := by decide +kernel
theorem dX6_classFor_55 : decode cX6_classFor 55 = .ok (.iadd, 1) := by decide +kernel
theorem dX6_classFor_56 : decode cX6_classFor 56 = .ok (.aload_n 1, 1) := by decide +kernel
theorem dX6_classFor_57 : decode cX6_classFor 57 = .ok (.aload_n 2, 1) := by decide +kernel
theorem dX6_classFor_58 : decode cX6_classFor 58 = .ok (.invokespecial 47, 3) := by decide +kernel
theorem dX6_classFor_61 : decode cX6_classFor 61 = .ok (.astore 4, 2) := by decide +kernel
theorem dX6_classFor_63 : decode cX6_classFor 63 = .ok (.aload_n 0, 1) := by decide +kernel
theorem dX6_classFor_64 : decode cX6_classFor 64 = .ok (.getfield 19, 3) := by decide +kernel
theorem dX6_classFor_67 : decode cX6_classFor 67 = .ok (.aload_n 0, 1) := by decide +kernel
theorem dX6_classFor_68 : decode cX6_classFor 68 = .ok (.getfield 30, 3) := by decide +kernel
theorem dX6_classFor_71 : decode cX6_classFor 71 = .ok (.aload 4, 2) := by decide +kernel
theorem dX6_classFor_73 : decode cX6_classFor 73 = .ok (.aastore, 1) := by decide +kernel
theorem dX6_classFor_74 : decode cX6_classFor 74 = .ok (.aload_n 0, 1) := by decide +kernel
theorem dX6_classFor_75 : decode cX6_classFor 75 = .ok (.dup, 1) := by decide +kernel
theorem dX6_classFor_76 : decode cX6_classFor 76 = .ok (.getfield 30, 3) := by decide +kernel
theorem dX6_classFor_79 : decode cX6_classFor 79 = .ok (.iconst 1, 1) := by decide +kernel
theorem dX6_classFor_80 : decode cX6_classFor 80 = .ok (.iadd, 1) := by decide +kernel
theorem dX6_classFor_81 : decode cX6_classFor 81 = .ok (.putfield 30, 3) := by decide +kernel
theorem dX6_classFor_84 : decode cX6_classFor 84 = .ok (.aload_n 1, 1) := by decide +kernel
theorem dX6_classFor_85 : decode cX6_classFor 85 = .ok (.aload_n 2, 1) := by decide +kernel
theorem dX6_classFor_86 : decode cX6_classFor 86 = .ok (.aload 4, 2) := by decide +kernel
theorem dX6_classFor_88 : decode cX6_classFor 88 = .ok (.invokevirtual 50, 3) := by decide +kernel
theorem dX6_classFor_91 : decode cX6_classFor 91 = .ok (.aload 4, 2) := by decide +kernel
theorem dX6_classFor_93 : decode cX6_classFor 93 = .ok (.areturn, 1) := by decide +kernel
theorem dX6_haveCommonClass_0 : decode cX6_haveCommonClass 0 = .ok (.iconst 0, 1) := by decide +kernel
theorem dX6_haveCommonClass_1 : decode cX6_haveCommonClass 1 = .ok (.istore_n 3, 1) := by decide +kernel
theorem dX6_haveCommonClass_2 : decode cX6_haveCommonClass 2 = .ok (.iload_n 3, 1) := by decide +kernel
theorem dX6_haveCommonClass_3 : decode cX6_haveCommonClass 3 = .ok (.aload_n 0, 1) := by decide +kernel
theorem dX6_haveCommonClass_4 : decode cX6_haveCommonClass 4 = .ok (.getfield 30, 3) := by decide +kernel
theorem dX6_haveCommonClass_7 : decode cX6_haveCommonClass 7 = .ok (.if_icmp .ge 51, 3) := by decide +kernel
theorem dX6_haveCommonClass_10 : decode cX6_haveCommonClass 10 = .ok (.iload_n 3, 1) := by decide +kernel
theorem dX6_haveCommonClass_11 : decode cX6_haveCommonClass 11 = .ok (.aload_n 0, 1) := by decide +kernel
theorem dX6_haveCommonClass_12 : decode cX6_haveCommonClass 12 = .ok (.getfield 19, 3) := by decide +kernel
theorem dX6_haveCommonClass_15 : decode cX6_haveCommonClass 15 = .ok (.arraylength, 1) := by decide +kernel
theorem dX6_haveCommonClass_16 : decode cX6_haveCommonClass 16 = .ok (.if_icmp .ge 42, 3) := by decide +kernel
theorem dX6_haveCommonClass_19 : decode cX6_haveCommonClass 19 = .ok (.aload_n 0, 1) := by decide +kernel
theorem dX6_haveCommonClass_20 : decode cX6_haveCommonClass 20 = .ok (.getfield 19, 3) := by decide +kernel
theorem dX6_haveCommonClass_23 : decode cX6_haveCommonClass 23 = .ok (.iload_n 3, 1) := by decide +kernel
theorem dX6_haveCommonClass_24 : decode cX6_haveCommonClass 24 = .ok (.aaload, 1) := by decide +kernel
theorem dX6_haveCommonClass_25 : decode cX6_haveCommonClass 25 = .ok (.astore 4, 2) := by decide +kernel
theorem dX6_haveCommonClass_27 : decode cX6_haveCommonClass 27 = .ok (.aload 4, 2) := by decide +kernel
theorem dX6_haveCommonClass_29 : decode cX6_haveCommonClass 29 = .ok (.ifnull 23, 3) := by decide +kernel
theorem dX6_haveCommonClass_32 : decode cX6_haveCommonClass 32 = .ok (.aload 4, 2) := by decide +kernel
theorem dX6_haveCommonClass_34 : decode cX6_haveCommonClass 34 = .ok (.getfield 54, 3) := by decide +kernel
theorem dX6_haveCommonClass_37 : decode cX6_haveCommonClass 37 = .ok (.aload_n 1, 1) := by decide +kernel
theorem dX6_haveCommonClass_38 : decode cX6_haveCommonClass 38 = .ok (.if_acmp .ne 14, 3) := by decide +kernel
theorem dX6_haveCommonClass_41 : decode cX6_haveCommonClass 41 = .ok (.aload 4, 2) := by decide +kernel
theorem dX6_haveCommonClass_43 : decode cX6_haveCommonClass 43 = .ok (.getfield 54, 3) := by decide +kernel
theorem dX6_haveCommonClass_46 : decode cX6_haveCommonClass 46 = .ok (.aload_n 2, 1) := by decide +kernel
theorem dX6_haveCommonClass_47 : decode cX6_haveCommonClass 47 = .ok (.if_acmp .ne 5, 3) := by decide +kernel
theorem dX6_haveCommonClass_50 : decode cX6_haveCommonClass 50 = .ok (.iconst 1, 1) := by decide +kernel
theorem dX6_haveCommonClass_51 : decode cX6_haveCommonClass 51 = .ok (.ireturn, 1) := by decide +kernel
theorem dX6_haveCommonClass_52 : decode cX6_haveCommonClass 52 = .ok (.iinc 3 1, 3) := by decide +kernel
theorem dX6_haveCommonClass_55 : decode cX6_haveCommonClass 55 = .ok (.goto (-53), 3) := by decide +kernel
theorem dX6_haveCommonClass_58 : decode cX6_haveCommonClass 58 = .ok (.iconst 0, 1) := by decide +kernel
theorem dX6_haveCommonClass_59 : decode cX6_haveCommonClass 59 = .ok (.ireturn, 1) := by decide +kernel
theorem dX7_init_0 : decode cX7_init 0 = .ok (.aload_n 0, 1) := by decide +kernel
theorem dX7_init_1 : decode cX7_init 1 = .ok (.invokespecial 1, 3) := by decide +kernel
theorem dX7_init_4 : decode cX7_init 4 = .ok (.aload_n 0, 1) := by decide +kernel
theorem dX7_init_5 : decode cX7_init 5 = .ok (.new 7, 3) := by decide +kernel
theorem dX7_init_8 : decode cX7_init 8 = .ok (.dup, 1) := by decide +kernel
theorem dX7_init_9 : decode cX7_init 9 = .ok (.invokespecial 9, 3) := by decide +kernel
theorem dX7_init_12 : decode cX7_init 12 = .ok (.putfield 10, 3) := by decide +kernel
theorem dX7_init_15 : decode cX7_init 15 = .ok (.aload_n 0, 1) := by decide +kernel
theorem dX7_init_16 : decode cX7_init 16 = .ok (.new 16, 3) := by decide +kernel
theorem dX7_init_19 : decode cX7_init 19 = .ok (.dup, 1) := by decide +kernel
