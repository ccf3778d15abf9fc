/-! Law: steps on a stack -/
theorem dX4_init_0 : gx_d mX4_init 0 (.aload_n 0) 1 := gx_dk (by decide +kernel)
theorem dX4_init_1 : gx_d mX4_init 1 (.invokespecial 1) 3 := gx_dk (by decide +kernel)
theorem dX4_init_4 : gx_d mX4_init 4 (.aload_n 0) 1 := gx_dk (by decide +kernel)
theorem dX4_init_5 : gx_d mX4_init 5 (.sipush 128) 3 := gx_dk (by decide +kernel)
theorem dX4_init_8 : gx_d mX4_init 8 (.newarray .int) 2 := gx_dk (by decide +kernel)
theorem dX4_init_10 : gx_d mX4_init 10 (.putfield 9) 3 := gx_dk (by decide +kernel)
theorem dX4_init_13 : gx_d mX4_init 13 (.aload_n 0) 1 := gx_dk (by decide +kernel)
theorem dX4_init_14 : gx_d mX4_init 14 (.sipush 128) 3 := gx_dk (by decide +kernel)
theorem dX4_init_17 : gx_d mX4_init 17 (.newarray .int) 2 := gx_dk (by decide +kernel)
theorem dX4_init_19 : gx_d mX4_init 19 (.putfield 13) 3 := gx_dk (by decide +kernel)
theorem dX4_init_22 : gx_d mX4_init 22 (.aload_n 0) 1 := gx_dk (by decide +kernel)
theorem dX4_init_23 : gx_d mX4_init 23 (.bipush 64) 2 := gx_dk (by decide +kernel)
theorem dX4_init_25 : gx_d mX4_init 25 (.newarray .int) 2 := gx_dk (by decide +kernel)
theorem dX4_init_27 : gx_d mX4_init 27 (.putfield 16) 3 := gx_dk (by decide +kernel)
theorem dX4_init_30 : gx_d mX4_init 30 (.aload_n 0) 1 := gx_dk (by decide +kernel)
theorem dX4_init_31 : gx_d mX4_init 31 (.bipush 6) 2 := gx_dk (by decide +kernel)
theorem dX4_init_33 : gx_d mX4_init 33 (.newarray .int) 2 := gx_dk (by decide +kernel)
theorem dX4_init_35 : gx_d mX4_init 35 (.putfield 19) 3 := gx_dk (by decide +kernel)
theorem dX4_init_38 : gx_d mX4_init 38 (.return_) 1 := gx_dk (by decide +kernel)
theorem dX4_isTold_0 : gx_d mX4_isTold 0 (.aload_n 0) 1 := gx_dk (by decide +kernel)
theorem dX4_isTold_1 : gx_d mX4_isTold 1 (.getfield 22) 3 := gx_dk (by decide +kernel)
theorem dX4_isTold_4 : gx_d mX4_isTold 4 (.ifCond .le 7) 3 := gx_dk (by decide +kernel)
theorem dX4_isTold_7 : gx_d mX4_isTold 7 (.iconst 1) 1 := gx_dk (by decide +kernel)
theorem dX4_isTold_8 : gx_d mX4_isTold 8 (.goto 4) 3 := gx_dk (by decide +kernel)
theorem dX4_isTold_11 : gx_d mX4_isTold 11 (.iconst 0) 1 := gx_dk (by decide +kernel)
theorem dX4_isTold_12 : gx_d mX4_isTold 12 (.ireturn) 1 := gx_dk (by decide +kernel)
theorem dX4_clear_0 : gx_d mX4_clear 0 (.aload_n 0) 1 := gx_dk (by decide +kernel)
theorem dX4_clear_1 : gx_d mX4_clear 1 (.iconst 0) 1 := gx_dk (by decide +kernel)
theorem dX4_clear_2 : gx_d mX4_clear 2 (.putfield 22) 3 := gx_dk (by decide +kernel)
theorem dX4_clear_5 : gx_d mX4_clear 5 (.return_) 1 := gx_dk (by decide +kernel)
theorem dX4_add_0 : gx_d mX4_add 0 (.aload_n 0) 1 := gx_dk (by decide +kernel)
theorem dX4_add_1 : gx_d mX4_add 1 (.getfield 22) 3 := gx_dk (by decide +kernel)
theorem dX4_add_4 : gx_d mX4_add 4 (.sipush 128) 3 := gx_dk (by decide +kernel)
theorem dX4_add_7 : gx_d mX4_add 7 (.if_icmp .ge 33) 3 := gx_dk (by decide +kernel)
theorem dX4_add_10 : gx_d mX4_add 10 (.aload_n 0) 1 := gx_dk (by decide +kernel)
theorem dX4_add_11 : gx_d mX4_add 11 (.getfield 9) 3 := gx_dk (by decide +kernel)
theorem dX4_add_14 : gx_d mX4_add 14 (.aload_n 0) 1 := gx_dk (by decide +kernel)
theorem dX4_add_15 : gx_d mX4_add 15 (.getfield 22) 3 := gx_dk (by decide +kernel)
theorem dX4_add_18 : gx_d mX4_add 18 (.iload_n 1) 1 := gx_dk (by decide +kernel)
theorem dX4_add_19 : gx_d mX4_add 19 (.iastore) 1 := gx_dk (by decide +kernel)
theorem dX4_add_20 : gx_d mX4_add 20 (.aload_n 0) 1 := gx_dk (by decide +kernel)
theorem dX4_add_21 : gx_d mX4_add 21 (.getfield 13) 3 := gx_dk (by decide +kernel)
theorem dX4_add_24 : gx_d mX4_add 24 (.aload_n 0) 1 := gx_dk (by decide +kernel)
theorem dX4_add_25 : gx_d mX4_add 25 (.getfield 22) 3 := gx_dk (by decide +kernel)
theorem dX4_add_28 : gx_d mX4_add 28 (.iload_n 2) 1 := gx_dk (by decide +kernel)
theorem dX4_add_29 : gx_d mX4_add 29 (.iastore) 1 := gx_dk (by decide +kernel)
theorem dX4_add_30 : gx_d mX4_add 30 (.aload_n 0) 1 := gx_dk (by decide +kernel)
theorem dX4_add_31 : gx_d mX4_add 31 (.dup) 1 := gx_dk (by decide +kernel)
theorem dX4_add_32 : gx_d mX4_add 32 (.getfield 22) 3 := gx_dk (by decide +kernel)
theorem dX4_add_35 : gx_d mX4_add 35 (.iconst 1) 1 := gx_dk (by decide +kernel)
theorem dX4_add_36 : gx_d mX4_add 36 (.iadd) 1 := gx_dk (by decide +kernel)
theorem dX4_add_37 : gx_d mX4_add 37 (.putfield 22) 3 := gx_dk (by decide +kernel)
theorem dX4_add_40 : gx_d mX4_add 40 (.return_) 1 := gx_dk (by decide +kernel)
theorem dX4_gives_0 : gx_d mX4_gives 0 (.aload_n 0) 1 := gx_dk (by decide +kernel)
theorem dX4_gives_1 : gx_d mX4_gives 1 (.getfield 19) 3 := gx_dk (by decide +kernel)
theorem dX4_gives_4 : gx_d mX4_gives 4 (.iconst 0) 1 := gx_dk (by decide +kernel)
theorem dX4_gives_5 : gx_d mX4_gives 5 (.iload_n 1) 1 := gx_dk (by decide +kernel)
theorem dX4_gives_6 : gx_d mX4_gives 6 (.iastore) 1 := gx_dk (by decide +kernel)
theorem dX4_gives_7 : gx_d mX4_gives 7 (.aload_n 0) 1 := gx_dk (by decide +kernel)
theorem dX4_gives_8 : gx_d mX4_gives 8 (.getfield 19) 3 := gx_dk (by decide +kernel)
theorem dX4_gives_11 : gx_d mX4_gives 11 (.iconst 1) 1 := gx_dk (by decide +kernel)
theorem dX4_gives_12 : gx_d mX4_gives 12 (.iload_n 2) 1 := gx_dk (by decide +kernel)
theorem dX4_gives_13 : gx_d mX4_gives 13 (.iastore) 1 := gx_dk (by decide +kernel)
theorem dX4_gives_14 : gx_d mX4_gives 14 (.aload_n 0) 1 := gx_dk (by decide +kernel)
theorem dX4_gives_15 : gx_d mX4_gives 15 (.getfield 19) 3 := gx_dk (by decide +kernel)
theorem dX4_gives_18 : gx_d mX4_gives 18 (.iconst 2) 1 := gx_dk (by decide +kernel)
theorem dX4_gives_19 : gx_d mX4_gives 19 (.iload_n 3) 1 := gx_dk (by decide +kernel)
theorem dX4_gives_20 : gx_d mX4_gives 20 (.iastore) 1 := gx_dk (by decide +kernel)
theorem dX4_gives_21 : gx_d mX4_gives 21 (.aload_n 0) 1 := gx_dk (by decide +kernel)
theorem dX4_gives_22 : gx_d mX4_gives 22 (.getfield 19) 3 := gx_dk (by decide +kernel)
theorem dX4_gives_25 : gx_d mX4_gives 25 (.iconst 3) 1 := gx_dk (by decide +kernel)
theorem dX4_gives_26 : gx_d mX4_gives 26 (.iload 4) 2 := gx_dk (by decide +kernel)
theorem dX4_gives_28 : gx_d mX4_gives 28 (.iastore) 1 := gx_dk (by decide +kernel)
theorem dX4_gives_29 : gx_d mX4_gives 29 (.aload_n 0) 1 := gx_dk (by decide +kernel)
theorem dX4_gives_30 : gx_d mX4_gives 30 (.getfield 19) 3 := gx_dk (by decide +kernel)
theorem dX4_gives_33 : gx_d mX4_gives 33 (.iconst 4) 1 := gx_dk (by decide +kernel)
theorem dX4_gives_34 : gx_d mX4_gives 34 (.iload 5) 2 := gx_dk (by decide +kernel)
theorem dX4_gives_36 : gx_d mX4_gives 36 (.iastore) 1 := gx_dk (by decide +kernel)
theorem dX4_gives_37 : gx_d mX4_gives 37 (.aload_n 0) 1 := gx_dk (by decide +kernel)
theorem dX4_gives_38 : gx_d mX4_gives 38 (.getfield 19) 3 := gx_dk (by decide +kernel)
theorem dX4_gives_41 : gx_d mX4_gives 41 (.iconst 5) 1 := gx_dk (by decide +kernel)
theorem dX4_gives_42 : gx_d mX4_gives 42 (.iload 6) 2 := gx_dk (by decide +kernel)
theorem dX4_gives_44 : gx_d mX4_gives 44 (.iastore) 1 := gx_dk (by decide +kernel)
theorem dX4_gives_45 : gx_d mX4_gives 45 (.aload_n 0) 1 := gx_dk (by decide +kernel)
theorem dX4_gives_46 : gx_d mX4_gives 46 (.iconst 0) 1 := gx_dk (by decide +kernel)
theorem dX4_gives_47 : gx_d mX4_gives 47 (.putfield 26) 3 := gx_dk (by decide +kernel)
theorem dX4_gives_50 : gx_d mX4_gives 50 (.iconst 0) 1 := gx_dk (by decide +kernel)
theorem dX4_gives_51 : gx_d mX4_gives 51 (.istore 7) 2 := gx_dk (by decide +kernel)
theorem dX4_gives_53 : gx_d mX4_gives 53 (.iconst 0) 1 := gx_dk (by decide +kernel)
theorem dX4_gives_54 : gx_d mX4_gives 54 (.istore 8) 2 := gx_dk (by decide +kernel)
theorem dX4_gives_56 : gx_d mX4_gives 56 (.iload 8) 2 := gx_dk (by decide +kernel)
theorem dX4_gives_58 : gx_d mX4_gives 58 (.aload_n 0) 1 := gx_dk (by decide +kernel)
theorem dX4_gives_59 : gx_d mX4_gives 59 (.getfield 22) 3 := gx_dk (by decide +kernel)
theorem dX4_gives_62 : gx_d mX4_gives 62 (.if_icmp .ge 192) 3 := gx_dk (by decide +kernel)
theorem dX4_gives_65 : gx_d mX4_gives 65 (.aload_n 0) 1 := gx_dk (by decide +kernel)
theorem dX4_gives_66 : gx_d mX4_gives 66 (.getfield 9) 3 := gx_dk (by decide +kernel)
theorem dX4_gives_69 : gx_d mX4_gives 69 (.iload 8) 2 := gx_dk (by decide +kernel)
theorem dX4_gives_71 : gx_d mX4_gives 71 (.iaload) 1 := gx_dk (by decide +kernel)
theorem dX4_gives_72 : gx_d mX4_gives 72 (.istore 9) 2 := gx_dk (by decide +kernel)
theorem dX4_gives_74 : gx_d mX4_gives 74 (.iload 7) 2 := gx_dk (by decide +kernel)
theorem dX4_gives_76 : gx_d mX4_gives 76 (.ifCond .eq 20) 3 := gx_dk (by decide +kernel)
theorem dX4_gives_79 : gx_d mX4_gives 79 (.iload 9) 2 := gx_dk (by decide +kernel)
theorem dX4_gives_81 : gx_d mX4_gives 81 (.bipush 59) 2 := gx_dk (by decide +kernel)
theorem dX4_gives_83 : gx_d mX4_gives 83 (.if_icmp .eq 7) 3 := gx_dk (by decide +kernel)
theorem dX4_gives_86 : gx_d mX4_gives 86 (.iconst 1) 1 := gx_dk (by decide +kernel)
theorem dX4_gives_87 : gx_d mX4_gives 87 (.goto 4) 3 := gx_dk (by decide +kernel)
theorem dX4_gives_90 : gx_d mX4_gives 90 (.iconst 0) 1 := gx_dk (by decide +kernel)
theorem dX4_gives_91 : gx_d mX4_gives 91 (.istore 7) 2 := gx_dk (by decide +kernel)
theorem dX4_gives_93 : gx_d mX4_gives 93 (.goto 155) 3 := gx_dk (by decide +kernel)
theorem dX4_gives_96 : gx_d mX4_gives 96 (.iload 9) 2 := gx_dk (by decide +kernel)
theorem dX4_gives_98 : gx_d mX4_gives 98 (.bipush 59) 2 := gx_dk (by decide +kernel)
theorem dX4_gives_100 : gx_d mX4_gives 100 (.if_icmp .ne 8) 3 := gx_dk (by decide +kernel)
theorem dX4_gives_103 : gx_d mX4_gives 103 (.aload_n 0) 1 := gx_dk (by decide +kernel)
theorem dX4_gives_104 : gx_d mX4_gives 104 (.invokevirtual 29) 3 := gx_dk (by decide +kernel)
theorem dX4_gives_107 : gx_d mX4_gives 107 (.ireturn) 1 := gx_dk (by decide +kernel)
theorem dX4_gives_108 : gx_d mX4_gives 108 (.iload 9) 2 := gx_dk (by decide +kernel)
theorem dX4_gives_110 : gx_d mX4_gives 110 (.bipush 63) 2 := gx_dk (by decide +kernel)
theorem dX4_gives_112 : gx_d mX4_gives 112 (.if_icmp .ne 20) 3 := gx_dk (by decide +kernel)
theorem dX4_gives_115 : gx_d mX4_gives 115 (.aload_n 0) 1 := gx_dk (by decide +kernel)
theorem dX4_gives_116 : gx_d mX4_gives 116 (.invokevirtual 29) 3 := gx_dk (by decide +kernel)
theorem dX4_gives_119 : gx_d mX4_gives 119 (.ifCond .ne 7) 3 := gx_dk (by decide +kernel)
theorem dX4_gives_122 : gx_d mX4_gives 122 (.iconst 1) 1 := gx_dk (by decide +kernel)
theorem dX4_gives_123 : gx_d mX4_gives 123 (.goto 4) 3 := gx_dk (by decide +kernel)
theorem dX4_gives_126 : gx_d mX4_gives 126 (.iconst 0) 1 := gx_dk (by decide +kernel)
theorem dX4_gives_127 : gx_d mX4_gives 127 (.istore 7) 2 := gx_dk (by decide +kernel)
theorem dX4_gives_129 : gx_d mX4_gives 129 (.goto 119) 3 := gx_dk (by decide +kernel)
theorem dX4_gives_132 : gx_d mX4_gives 132 (.iload 9) 2 := gx_dk (by decide +kernel)
theorem dX4_gives_134 : gx_d mX4_gives 134 (.bipush 48) 2 := gx_dk (by decide +kernel)
theorem dX4_gives_136 : gx_d mX4_gives 136 (.if_icmp .ne 17) 3 := gx_dk (by decide +kernel)
theorem dX4_gives_139 : gx_d mX4_gives 139 (.aload_n 0) 1 := gx_dk (by decide +kernel)
theorem dX4_gives_140 : gx_d mX4_gives 140 (.aload_n 0) 1 := gx_dk (by decide +kernel)
theorem dX4_gives_141 : gx_d mX4_gives 141 (.getfield 13) 3 := gx_dk (by decide +kernel)
theorem dX4_gives_144 : gx_d mX4_gives 144 (.iload 8) 2 := gx_dk (by decide +kernel)
theorem dX4_gives_146 : gx_d mX4_gives 146 (.iaload) 1 := gx_dk (by decide +kernel)
theorem dX4_gives_147 : gx_d mX4_gives 147 (.invokevirtual 33) 3 := gx_dk (by decide +kernel)
theorem dX4_gives_150 : gx_d mX4_gives 150 (.goto 98) 3 := gx_dk (by decide +kernel)
theorem dX4_gives_153 : gx_d mX4_gives 153 (.iload 9) 2 := gx_dk (by decide +kernel)
theorem dX4_gives_155 : gx_d mX4_gives 155 (.bipush 110) 2 := gx_dk (by decide +kernel)
theorem dX4_gives_157 : gx_d mX4_gives 157 (.if_icmp .ne 21) 3 := gx_dk (by decide +kernel)
theorem dX4_gives_160 : gx_d mX4_gives 160 (.aload_n 0) 1 := gx_dk (by decide +kernel)
theorem dX4_gives_161 : gx_d mX4_gives 161 (.aload_n 0) 1 := gx_dk (by decide +kernel)
theorem dX4_gives_162 : gx_d mX4_gives 162 (.aload_n 0) 1 := gx_dk (by decide +kernel)
theorem dX4_gives_163 : gx_d mX4_gives 163 (.getfield 13) 3 := gx_dk (by decide +kernel)
theorem dX4_gives_166 : gx_d mX4_gives 166 (.iload 8) 2 := gx_dk (by decide +kernel)
theorem dX4_gives_168 : gx_d mX4_gives 168 (.iaload) 1 := gx_dk (by decide +kernel)
theorem dX4_gives_169 : gx_d mX4_gives 169 (.invokevirtual 37) 3 := gx_dk (by decide +kernel)
theorem dX4_gives_172 : gx_d mX4_gives 172 (.invokevirtual 33) 3 := gx_dk (by decide +kernel)
theorem dX4_gives_175 : gx_d mX4_gives 175 (.goto 73) 3 := gx_dk (by decide +kernel)
theorem dX4_gives_178 : gx_d mX4_gives 178 (.iload 9) 2 := gx_dk (by decide +kernel)
theorem dX4_gives_180 : gx_d mX4_gives 180 (.bipush 33) 2 := gx_dk (by decide +kernel)
theorem dX4_gives_182 : gx_d mX4_gives 182 (.if_icmp .ne 22) 3 := gx_dk (by decide +kernel)
theorem dX4_gives_185 : gx_d mX4_gives 185 (.aload_n 0) 1 := gx_dk (by decide +kernel)
theorem dX4_gives_186 : gx_d mX4_gives 186 (.aload_n 0) 1 := gx_dk (by decide +kernel)
theorem dX4_gives_187 : gx_d mX4_gives 187 (.invokevirtual 29) 3 := gx_dk (by decide +kernel)
theorem dX4_gives_190 : gx_d mX4_gives 190 (.ifCond .ne 7) 3 := gx_dk (by decide +kernel)
theorem dX4_gives_193 : gx_d mX4_gives 193 (.iconst 1) 1 := gx_dk (by decide +kernel)
theorem dX4_gives_194 : gx_d mX4_gives 194 (.goto 4) 3 := gx_dk (by decide +kernel)
theorem dX4_gives_197 : gx_d mX4_gives 197 (.iconst 0) 1 := gx_dk (by decide +kernel)
theorem dX4_gives_198 : gx_d mX4_gives 198 (.invokevirtual 33) 3 := gx_dk (by decide +kernel)
theorem dX4_gives_201 : gx_d mX4_gives 201 (.goto 47) 3 := gx_dk (by decide +kernel)
theorem dX4_gives_204 : gx_d mX4_gives 204 (.iload 9) 2 := gx_dk (by decide +kernel)
theorem dX4_gives_206 : gx_d mX4_gives 206 (.bipush 126) 2 := gx_dk (by decide +kernel)
theorem dX4_gives_208 : gx_d mX4_gives 208 (.if_icmp .ne 15) 3 := gx_dk (by decide +kernel)
theorem dX4_gives_211 : gx_d mX4_gives 211 (.aload_n 0) 1 := gx_dk (by decide +kernel)
theorem dX4_gives_212 : gx_d mX4_gives 212 (.aload_n 0) 1 := gx_dk (by decide +kernel)
theorem dX4_gives_213 : gx_d mX4_gives 213 (.invokevirtual 29) 3 := gx_dk (by decide +kernel)
theorem dX4_gives_216 : gx_d mX4_gives 216 (.ineg) 1 := gx_dk (by decide +kernel)
theorem dX4_gives_217 : gx_d mX4_gives 217 (.invokevirtual 33) 3 := gx_dk (by decide +kernel)
theorem dX4_gives_220 : gx_d mX4_gives 220 (.goto 28) 3 := gx_dk (by decide +kernel)
theorem dX4_gives_223 : gx_d mX4_gives 223 (.aload_n 0) 1 := gx_dk (by decide +kernel)
theorem dX4_gives_224 : gx_d mX4_gives 224 (.invokevirtual 29) 3 := gx_dk (by decide +kernel)
theorem dX4_gives_227 : gx_d mX4_gives 227 (.istore 10) 2 := gx_dk (by decide +kernel)
theorem dX4_gives_229 : gx_d mX4_gives 229 (.aload_n 0) 1 := gx_dk (by decide +kernel)
theorem dX4_gives_230 : gx_d mX4_gives 230 (.invokevirtual 29) 3 := gx_dk (by decide +kernel)
theorem dX4_gives_233 : gx_d mX4_gives 233 (.istore 11) 2 := gx_dk (by decide +kernel)
theorem dX4_gives_235 : gx_d mX4_gives 235 (.aload_n 0) 1 := gx_dk (by decide +kernel)
theorem dX4_gives_236 : gx_d mX4_gives 236 (.iload 9) 2 := gx_dk (by decide +kernel)
theorem dX4_gives_238 : gx_d mX4_gives 238 (.iload 11) 2 := gx_dk (by decide +kernel)
theorem dX4_gives_240 : gx_d mX4_gives 240 (.iload 10) 2 := gx_dk (by decide +kernel)
theorem dX4_gives_242 : gx_d mX4_gives 242 (.invokestatic 41) 3 := gx_dk (by decide +kernel)
theorem dX4_gives_245 : gx_d mX4_gives 245 (.invokevirtual 33) 3 := gx_dk (by decide +kernel)
theorem dX4_gives_248 : gx_d mX4_gives 248 (.iinc 8 1) 3 := gx_dk (by decide +kernel)
theorem dX4_gives_251 : gx_d mX4_gives 251 (.goto (-195)) 3 := gx_dk (by decide +kernel)
theorem dX4_gives_254 : gx_d mX4_gives 254 (.iconst 0) 1 := gx_dk (by decide +kernel)
theorem dX4_gives_255 : gx_d mX4_gives 255 (.ireturn) 1 := gx_dk (by decide +kernel)
theorem dX4_named_0 : gx_d mX4_named 0 (.iload_n 1) 1 := gx_dk (by decide +kernel)
theorem dX4_named_1 : gx_d mX4_named 1 (.ifCond .lt 18) 3 := gx_dk (by decide +kernel)
theorem dX4_named_4 : gx_d mX4_named 4 (.iload_n 1) 1 := gx_dk (by decide +kernel)
theorem dX4_named_5 : gx_d mX4_named 5 (.bipush 6) 2 := gx_dk (by decide +kernel)
theorem dX4_named_7 : gx_d mX4_named 7 (.if_icmp .ge 12) 3 := gx_dk (by decide +kernel)
theorem dX4_named_10 : gx_d mX4_named 10 (.aload_n 0) 1 := gx_dk (by decide +kernel)
theorem dX4_named_11 : gx_d mX4_named 11 (.getfield 19) 3 := gx_dk (by decide +kernel)
theorem dX4_named_14 : gx_d mX4_named 14 (.iload_n 1) 1 := gx_dk (by decide +kernel)
theorem dX4_named_15 : gx_d mX4_named 15 (.iaload) 1 := gx_dk (by decide +kernel)
theorem dX4_named_16 : gx_d mX4_named 16 (.goto 4) 3 := gx_dk (by decide +kernel)
theorem dX4_named_19 : gx_d mX4_named 19 (.iconst 0) 1 := gx_dk (by decide +kernel)
theorem dX4_named_20 : gx_d mX4_named 20 (.ireturn) 1 := gx_dk (by decide +kernel)
theorem dX4_lay_0 : gx_d mX4_lay 0 (.aload_n 0) 1 := gx_dk (by decide +kernel)
theorem dX4_lay_1 : gx_d mX4_lay 1 (.getfield 26) 3 := gx_dk (by decide +kernel)
theorem dX4_lay_4 : gx_d mX4_lay 4 (.ifCond .lt 32) 3 := gx_dk (by decide +kernel)
theorem dX4_lay_7 : gx_d mX4_lay 7 (.aload_n 0) 1 := gx_dk (by decide +kernel)
theorem dX4_lay_8 : gx_d mX4_lay 8 (.getfield 26) 3 := gx_dk (by decide +kernel)
theorem dX4_lay_11 : gx_d mX4_lay 11 (.bipush 64) 2 := gx_dk (by decide +kernel)
theorem dX4_lay_13 : gx_d mX4_lay 13 (.if_icmp .ge 23) 3 := gx_dk (by decide +kernel)
theorem dX4_lay_16 : gx_d mX4_lay 16 (.aload_n 0) 1 := gx_dk (by decide +kernel)
theorem dX4_lay_17 : gx_d mX4_lay 17 (.getfield 16) 3 := gx_dk (by decide +kernel)
theorem dX4_lay_20 : gx_d mX4_lay 20 (.aload_n 0) 1 := gx_dk (by decide +kernel)
theorem dX4_lay_21 : gx_d mX4_lay 21 (.getfield 26) 3 := gx_dk (by decide +kernel)
theorem dX4_lay_24 : gx_d mX4_lay 24 (.iload_n 1) 1 := gx_dk (by decide +kernel)
theorem dX4_lay_25 : gx_d mX4_lay 25 (.iastore) 1 := gx_dk (by decide +kernel)
theorem dX4_lay_26 : gx_d mX4_lay 26 (.aload_n 0) 1 := gx_dk (by decide +kernel)
theorem dX4_lay_27 : gx_d mX4_lay 27 (.dup) 1 := gx_dk (by decide +kernel)
theorem dX4_lay_28 : gx_d mX4_lay 28 (.getfield 26) 3 := gx_dk (by decide +kernel)
theorem dX4_lay_31 : gx_d mX4_lay 31 (.iconst 1) 1 := gx_dk (by decide +kernel)
theorem dX4_lay_32 : gx_d mX4_lay 32 (.iadd) 1 := gx_dk (by decide +kernel)
theorem dX4_lay_33 : gx_d mX4_lay 33 (.putfield 26) 3 := gx_dk (by decide +kernel)
theorem dX4_lay_36 : gx_d mX4_lay 36 (.return_) 1 := gx_dk (by decide +kernel)
theorem dX4_take_0 : gx_d mX4_take 0 (.aload_n 0) 1 := gx_dk (by decide +kernel)
theorem dX4_take_1 : gx_d mX4_take 1 (.getfield 26) 3 := gx_dk (by decide +kernel)
theorem dX4_take_4 : gx_d mX4_take 4 (.ifCond .le 12) 3 := gx_dk (by decide +kernel)
theorem dX4_take_7 : gx_d mX4_take 7 (.aload_n 0) 1 := gx_dk (by decide +kernel)
theorem dX4_take_8 : gx_d mX4_take 8 (.getfield 26) 3 := gx_dk (by decide +kernel)
theorem dX4_take_11 : gx_d mX4_take 11 (.bipush 64) 2 := gx_dk (by decide +kernel)
theorem dX4_take_13 : gx_d mX4_take 13 (.if_icmp .le 5) 3 := gx_dk (by decide +kernel)
theorem dX4_take_16 : gx_d mX4_take 16 (.iconst 0) 1 := gx_dk (by decide +kernel)
theorem dX4_take_17 : gx_d mX4_take 17 (.ireturn) 1 := gx_dk (by decide +kernel)
theorem dX4_take_18 : gx_d mX4_take 18 (.aload_n 0) 1 := gx_dk (by decide +kernel)
theorem dX4_take_19 : gx_d mX4_take 19 (.dup) 1 := gx_dk (by decide +kernel)
theorem dX4_take_20 : gx_d mX4_take 20 (.getfield 26) 3 := gx_dk (by decide +kernel)
theorem dX4_take_23 : gx_d mX4_take 23 (.iconst 1) 1 := gx_dk (by decide +kernel)
theorem dX4_take_24 : gx_d mX4_take 24 (.isub) 1 := gx_dk (by decide +kernel)
theorem dX4_take_25 : gx_d mX4_take 25 (.putfield 26) 3 := gx_dk (by decide +kernel)
theorem dX4_take_28 : gx_d mX4_take 28 (.aload_n 0) 1 := gx_dk (by decide +kernel)
theorem dX4_take_29 : gx_d mX4_take 29 (.getfield 16) 3 := gx_dk (by decide +kernel)
theorem dX4_take_32 : gx_d mX4_take 32 (.aload_n 0) 1 := gx_dk (by decide +kernel)
theorem dX4_take_33 : gx_d mX4_take 33 (.getfield 26) 3 := gx_dk (by decide +kernel)
theorem dX4_take_36 : gx_d mX4_take 36 (.iaload) 1 := gx_dk (by decide +kernel)
theorem dX4_take_37 : gx_d mX4_take 37 (.ireturn) 1 := gx_dk (by decide +kernel)
theorem dX4_joined_0 : gx_d mX4_joined 0 (.iload_n 0) 1 := gx_dk (by decide +kernel)
theorem dX4_joined_1 : gx_d mX4_joined 1 (.lookupswitch 188 #[(37, 176), (38, 105), (42, 160), (43, 152), (45, 156), (47, 164), (60, 119), (61, 130), (62, 141), (124, 91)]) 91 := gx_dk (by decide +kernel)
theorem dX4_joined_92 : gx_d mX4_joined 92 (.iload_n 1) 1 := gx_dk (by decide +kernel)
theorem dX4_joined_93 : gx_d mX4_joined 93 (.ifCond .ne 7) 3 := gx_dk (by decide +kernel)
theorem dX4_joined_96 : gx_d mX4_joined 96 (.iload_n 2) 1 := gx_dk (by decide +kernel)
theorem dX4_joined_97 : gx_d mX4_joined 97 (.ifCond .eq 7) 3 := gx_dk (by decide +kernel)
theorem dX4_joined_100 : gx_d mX4_joined 100 (.iconst 1) 1 := gx_dk (by decide +kernel)
theorem dX4_joined_101 : gx_d mX4_joined 101 (.goto 4) 3 := gx_dk (by decide +kernel)
theorem dX4_joined_104 : gx_d mX4_joined 104 (.iconst 0) 1 := gx_dk (by decide +kernel)
theorem dX4_joined_105 : gx_d mX4_joined 105 (.ireturn) 1 := gx_dk (by decide +kernel)
theorem dX4_joined_106 : gx_d mX4_joined 106 (.iload_n 1) 1 := gx_dk (by decide +kernel)
theorem dX4_joined_107 : gx_d mX4_joined 107 (.ifCond .eq 11) 3 := gx_dk (by decide +kernel)
theorem dX4_joined_110 : gx_d mX4_joined 110 (.iload_n 2) 1 := gx_dk (by decide +kernel)
theorem dX4_joined_111 : gx_d mX4_joined 111 (.ifCond .eq 7) 3 := gx_dk (by decide +kernel)
theorem dX4_joined_114 : gx_d mX4_joined 114 (.iconst 1) 1 := gx_dk (by decide +kernel)
theorem dX4_joined_115 : gx_d mX4_joined 115 (.goto 4) 3 := gx_dk (by decide +kernel)
theorem dX4_joined_118 : gx_d mX4_joined 118 (.iconst 0) 1 := gx_dk (by decide +kernel)
theorem dX4_joined_119 : gx_d mX4_joined 119 (.ireturn) 1 := gx_dk (by decide +kernel)
theorem dX4_joined_120 : gx_d mX4_joined 120 (.iload_n 1) 1 := gx_dk (by decide +kernel)
theorem dX4_joined_121 : gx_d mX4_joined 121 (.iload_n 2) 1 := gx_dk (by decide +kernel)
theorem dX4_joined_122 : gx_d mX4_joined 122 (.if_icmp .ge 7) 3 := gx_dk (by decide +kernel)
theorem dX4_joined_125 : gx_d mX4_joined 125 (.iconst 1) 1 := gx_dk (by decide +kernel)
theorem dX4_joined_126 : gx_d mX4_joined 126 (.goto 4) 3 := gx_dk (by decide +kernel)
theorem dX4_joined_129 : gx_d mX4_joined 129 (.iconst 0) 1 := gx_dk (by decide +kernel)
theorem dX4_joined_130 : gx_d mX4_joined 130 (.ireturn) 1 := gx_dk (by decide +kernel)
theorem dX4_joined_131 : gx_d mX4_joined 131 (.iload_n 1) 1 := gx_dk (by decide +kernel)
theorem dX4_joined_132 : gx_d mX4_joined 132 (.iload_n 2) 1 := gx_dk (by decide +kernel)
theorem dX4_joined_133 : gx_d mX4_joined 133 (.if_icmp .ne 7) 3 := gx_dk (by decide +kernel)
theorem dX4_joined_136 : gx_d mX4_joined 136 (.iconst 1) 1 := gx_dk (by decide +kernel)
theorem dX4_joined_137 : gx_d mX4_joined 137 (.goto 4) 3 := gx_dk (by decide +kernel)
theorem dX4_joined_140 : gx_d mX4_joined 140 (.iconst 0) 1 := gx_dk (by decide +kernel)
theorem dX4_joined_141 : gx_d mX4_joined 141 (.ireturn) 1 := gx_dk (by decide +kernel)
theorem dX4_joined_142 : gx_d mX4_joined 142 (.iload_n 1) 1 := gx_dk (by decide +kernel)
theorem dX4_joined_143 : gx_d mX4_joined 143 (.iload_n 2) 1 := gx_dk (by decide +kernel)
theorem dX4_joined_144 : gx_d mX4_joined 144 (.if_icmp .le 7) 3 := gx_dk (by decide +kernel)
theorem dX4_joined_147 : gx_d mX4_joined 147 (.iconst 1) 1 := gx_dk (by decide +kernel)
theorem dX4_joined_148 : gx_d mX4_joined 148 (.goto 4) 3 := gx_dk (by decide +kernel)
theorem dX4_joined_151 : gx_d mX4_joined 151 (.iconst 0) 1 := gx_dk (by decide +kernel)
theorem dX4_joined_152 : gx_d mX4_joined 152 (.ireturn) 1 := gx_dk (by decide +kernel)
theorem dX4_joined_153 : gx_d mX4_joined 153 (.iload_n 1) 1 := gx_dk (by decide +kernel)
theorem dX4_joined_154 : gx_d mX4_joined 154 (.iload_n 2) 1 := gx_dk (by decide +kernel)
theorem dX4_joined_155 : gx_d mX4_joined 155 (.iadd) 1 := gx_dk (by decide +kernel)
theorem dX4_joined_156 : gx_d mX4_joined 156 (.ireturn) 1 := gx_dk (by decide +kernel)
theorem dX4_joined_157 : gx_d mX4_joined 157 (.iload_n 1) 1 := gx_dk (by decide +kernel)
theorem dX4_joined_158 : gx_d mX4_joined 158 (.iload_n 2) 1 := gx_dk (by decide +kernel)
theorem dX4_joined_159 : gx_d mX4_joined 159 (.isub) 1 := gx_dk (by decide +kernel)
theorem dX4_joined_160 : gx_d mX4_joined 160 (.ireturn) 1 := gx_dk (by decide +kernel)
theorem dX4_joined_161 : gx_d mX4_joined 161 (.iload_n 1) 1 := gx_dk (by decide +kernel)
theorem dX4_joined_162 : gx_d mX4_joined 162 (.iload_n 2) 1 := gx_dk (by decide +kernel)
theorem dX4_joined_163 : gx_d mX4_joined 163 (.imul) 1 := gx_dk (by decide +kernel)
theorem dX4_joined_164 : gx_d mX4_joined 164 (.ireturn) 1 := gx_dk (by decide +kernel)
theorem dX4_joined_165 : gx_d mX4_joined 165 (.iload_n 2) 1 := gx_dk (by decide +kernel)
theorem dX4_joined_166 : gx_d mX4_joined 166 (.ifCond .ne 7) 3 := gx_dk (by decide +kernel)
theorem dX4_joined_169 : gx_d mX4_joined 169 (.iconst 0) 1 := gx_dk (by decide +kernel)
theorem dX4_joined_170 : gx_d mX4_joined 170 (.goto 6) 3 := gx_dk (by decide +kernel)
theorem dX4_joined_173 : gx_d mX4_joined 173 (.iload_n 1) 1 := gx_dk (by decide +kernel)
theorem dX4_joined_174 : gx_d mX4_joined 174 (.iload_n 2) 1 := gx_dk (by decide +kernel)
theorem dX4_joined_175 : gx_d mX4_joined 175 (.idiv) 1 := gx_dk (by decide +kernel)
theorem dX4_joined_176 : gx_d mX4_joined 176 (.ireturn) 1 := gx_dk (by decide +kernel)
theorem dX4_joined_177 : gx_d mX4_joined 177 (.iload_n 2) 1 := gx_dk (by decide +kernel)
theorem dX4_joined_178 : gx_d mX4_joined 178 (.ifCond .ne 7) 3 := gx_dk (by decide +kernel)
theorem dX4_joined_181 : gx_d mX4_joined 181 (.iconst 0) 1 := gx_dk (by decide +kernel)
theorem dX4_joined_182 : gx_d mX4_joined 182 (.goto 6) 3 := gx_dk (by decide +kernel)
theorem dX4_joined_185 : gx_d mX4_joined 185 (.iload_n 1) 1 := gx_dk (by decide +kernel)
theorem dX4_joined_186 : gx_d mX4_joined 186 (.iload_n 2) 1 := gx_dk (by decide +kernel)
theorem dX4_joined_187 : gx_d mX4_joined 187 (.irem) 1 := gx_dk (by decide +kernel)
theorem dX4_joined_188 : gx_d mX4_joined 188 (.ireturn) 1 := gx_dk (by decide +kernel)
theorem dX4_joined_189 : gx_d mX4_joined 189 (.iconst 0) 1 := gx_dk (by decide +kernel)
theorem dX4_joined_190 : gx_d mX4_joined 190 (.ireturn) 1 := gx_dk (by decide +kernel)
def isLw (w : gx_W) (l s v k m : Nat) : Prop := w.1[l]? = some (4, 0) ∧ (w_r w l 0 = some s ∧ w.1[s]? = some (20, 128)) ∧ (w_r w l 1 = some v ∧ w.1[v]? = some (20, 128)) ∧ (w_r w l 2 = some k ∧ w.1[k]? = some (20, 64)) ∧ (w_r w l 3 = some m ∧ w.1[m]? = some (20, 6))
theorem isLw.same {R : List Nat} {F : List (Nat × Nat)} {w w' : gx_W} {l s v k m : Nat} (h : isLw w l s v k m) (hs : same R F w w') : isLw w' l s v k m := by
  unfold isLw at h ⊢
  rw [hs.1, hs.2.2.1]
  exact h
/-- the stack: its top first -/
def stR (w : gx_W) (l k : Nat) (st : List Int32) : Prop := w_i w l 5 = nI st.length ∧ st.length ≤ 64 ∧ ∀ i, i < st.length → w_a w k i = st.getD (st.length - 1 - i) 0
def lw_lay (x : Int32) (st : List Int32) : List Int32 := if st.length < 64 then x :: st else st
def lw_two (sign a b : Int32) : Int32 := if sign = 124 then (if a ≠ 0 ∨ b ≠ 0 then 1 else 0) else if sign = 38 then (if a ≠ 0 ∧ b ≠ 0 then 1 else 0) else if sign = 60 then (if a < b then 1 else 0) else if sign = 61 then (if a = b then 1 else 0) else if sign = 62 then (if a > b then 1 else 0) else if sign = 43 then a + b else if sign = 45 then a - b else if sign = 42 then a * b else if sign = 47 then (if b = 0 then 0 else a / b) else if sign = 37 then (if b = 0 then 0 else a - a / b * b) else 0
/-- one step that isn't the end of a line -/
def lw_step (nm : Nat → Int32) (sg va : Int32) (st : List Int32) : List Int32 :=
  if sg = 48 then lw_lay va st
  else if sg = 110 then lw_lay (if va < 0 ∨ va ≥ 6 then 0 else nm va.toNatClampNeg) st
  else if sg = 33 then lw_lay (if st.headD 0 = 0 then 1 else 0) st.tail
  else if sg = 126 then lw_lay (-(st.headD 0)) st.tail
  else lw_lay (lw_two sg (st.tail.headD 0) (st.headD 0)) st.tail.tail
def lw_run (sg va nm : Nat → Int32) : Nat → Nat → Bool → List Int32 → Int32
  | 0, _, _, _ => 0
  | z + 1, i, sk, st => if sk = true then lw_run sg va nm z (i + 1) (decide (sg i ≠ 59)) st
    else if sg i = 59 then st.headD 0
    else if sg i = 63 then lw_run sg va nm z (i + 1) (decide (st.headD 0 = 0)) st.tail
    else lw_run sg va nm z (i + 1) false (lw_step nm (sg i) (va i) st)
def lw_nm (a b c d e f : Int32) : Nat → Int32 := fun j => if j = 0 then a else if j = 1 then b else if j = 2 then c else if j = 3 then d else if j = 4 then e else f
theorem c_X4_isTold {d : Nat} {w : gx_W} {l s v k m : Nat} {q : Int32 → gx_W → Prop} (hd : 0 ≤ d) (h : isLw w l s v k m) (kt : w_i w l 4 > 0 → q 1 w) (kf : ¬ w_i w l 4 > 0 → q 0 w) : gx_C 0 0 d mX4_isTold [.ref l] w (Qi q) := by
  refine gx_C_of' (L := [.ref l]) (by decide +kernel) rfl (Nat.le_of_ble_eq_true rfl) ?_
  refine g_aload_n dX4_isTold_0 rfl ?_
  refine g_geti dX4_isTold_1 fl_X4_22 h.1 ?_
  refine g_if_le (tgt := 11) dX4_isTold_4 (by decide) (fun zc4 => ?_) (fun zc4 => ?_)
  · refine g_iconst (v := 0) dX4_isTold_11 rfl ?_
    refine g_zret dX4_isTold_12 rfl (Or.inl rfl) ⟨_, rfl, ?_⟩
    exact kf (by simpa using zc4)
  · refine g_iconst (v := 1) dX4_isTold_7 rfl ?_
    refine g_goto (tgt := 12) dX4_isTold_8 (by decide) ?_
    refine g_zret dX4_isTold_12 rfl (Or.inr rfl) ⟨_, rfl, ?_⟩
    exact kt (by simpa using zc4)
theorem c_X4_clear {d : Nat} {w : gx_W} {l s v k m : Nat} {q : gx_W → Prop} (hd : 0 ≤ d) (h : isLw w l s v k m) (kk : q (s_i w l 4 0)) : gx_C 0 0 d mX4_clear [.ref l] w (Qv q) := by
  refine gx_C_of' (L := [.ref l]) (by decide +kernel) rfl (Nat.le_of_ble_eq_true rfl) ?_
  refine g_aload_n dX4_clear_0 rfl ?_
  refine g_iconst (v := 0) dX4_clear_1 rfl ?_
  refine g_puti dX4_clear_2 fl_X4_22 ft_4_4 h.1 ?_
  refine g_vret dX4_clear_5 rfl ⟨rfl, ?_⟩
  exact kk
theorem c_X4_add {d : Nat} {w : gx_W} {l s v k m : Nat} {N : Nat} {a b : Int32} {q : gx_W → Prop} (hd : 0 ≤ d) (h : isLw w l s v k m) (hN : w_i w l 4 = nI N) (hb : N ≤ 128) (hsv : s ≠ v) (kt : N < 128 → q (s_i (s_a (s_a w s (va_up (w_a w s) N a)) v (va_up (w_a w v) N b)) l 4 (nI (N + 1)))) (kf : N = 128 → q w) : gx_C 0 0 d mX4_add [.ref l, .int a, .int b] w (Qv q) := by
  refine gx_C_of' (L := [.ref l, .int a, .int b]) (by decide +kernel) rfl (Nat.le_of_ble_eq_true rfl) ?_
  refine g_aload_n dX4_add_0 rfl ?_
  refine g_geti dX4_add_1 fl_X4_22 h.1 ?_
  refine g_sipush (v := 128) dX4_add_4 rfl ?_
  refine g_icmp_ge (tgt := 40) dX4_add_7 (by decide) (fun zc7 => ?_) (fun zc7 => ?_)
  · refine g_vret dX4_add_40 rfl ⟨rfl, ?_⟩
    have hge : ¬ N < 128 := by
      intro hlt
      have c := zc7
      rw [hN] at c
      exact absurd c (nI_ge (b := 128) hlt (by decide))
    exact kf (by omega)
  · have hlt : N < 128 := by
      have c := zc7
      rw [hN, pI_le, nI_toInt (by omega)] at c
      have e : (128 : Int32).toInt = 128 := by decide
      omega
    have hi : vp_in (w_i w l 4) 128 := by
      rw [hN]
      exact vp_in_nI hlt (by omega)
    refine g_aload_n dX4_add_10 rfl ?_
    refine g_getr dX4_add_11 fl_X4_9 h.1 h.2.1.1 ?_
    refine g_aload_n dX4_add_14 rfl ?_
    refine g_geti dX4_add_15 fl_X4_22 h.1 ?_
    refine g_iload_n dX4_add_18 rfl ?_
    refine g_iast dX4_add_19 h.2.1.2 hi ?_
    refine g_aload_n dX4_add_20 rfl ?_
    refine g_getr dX4_add_21 fl_X4_13 h.1 h.2.2.1.1 ?_
    refine g_aload_n dX4_add_24 rfl ?_
    refine g_geti dX4_add_25 fl_X4_22 h.1 ?_
    refine g_iload_n dX4_add_28 rfl ?_
    refine g_iast dX4_add_29 h.2.2.1.2 hi ?_
    refine g_aload_n dX4_add_30 rfl ?_
    refine g_dup dX4_add_31 rfl ?_
    refine g_geti dX4_add_32 fl_X4_22 h.1 ?_
    refine g_iconst (v := 1) dX4_add_35 rfl ?_
    refine g_iadd dX4_add_36 ?_
    refine g_puti dX4_add_37 fl_X4_22 ft_4_4 h.1 ?_
    refine g_vret dX4_add_40 rfl ⟨rfl, ?_⟩
    have e : s_i (s_a (s_a w s (va_up (w_a w s) (w_i w l 4).toNatClampNeg a)) v (va_up (w_a (s_a w s (va_up (w_a w s) (w_i w l 4).toNatClampNeg a)) v) (w_i w l 4).toNatClampNeg b)) l 4 (w_i w l 4 + 1) = s_i (s_a (s_a w s (va_up (w_a w s) N a)) v (va_up (w_a w v) N b)) l 4 (nI (N + 1)) := by
      rw [hN, nI_n (by omega), wa_sa, if_neg (Ne.symm hsv), nI_succ]
    have K := kt hlt
    rw [← e] at K
    exact K
theorem c_X4_named {d : Nat} {w : gx_W} {l s v k m : Nat} {x : Int32} {q : Int32 → gx_W → Prop} (hd : 0 ≤ d) (h : isLw w l s v k m) (kk : q (if x < 0 ∨ x ≥ 6 then 0 else w_a w m x.toNatClampNeg) w) : gx_C 0 0 d mX4_named [.ref l, .int x] w (Qi q) := by
  refine gx_C_of' (L := [.ref l, .int x]) (by decide +kernel) rfl (Nat.le_of_ble_eq_true rfl) ?_
  refine g_iload_n dX4_named_0 rfl ?_
  refine g_if_lt (tgt := 19) dX4_named_1 (by decide) (fun zc1 => ?_) (fun zc1 => ?_)
  · refine g_iconst (v := 0) dX4_named_19 rfl ?_
    refine g_iret dX4_named_20 rfl ⟨_, rfl, ?_⟩
    first
      | (rw [if_pos (Or.inl zc1)] at kk; exact kk)
      | (rw [if_pos (Or.inr zc7)] at kk; exact kk)
      | (rw [if_neg (fun z => by rcases z with z | z; exact zc1 z; exact zc7 z)] at kk; exact kk)
      | (rw [if_neg (fun z => by
          rcases z with z | z
          · exact zc1 z
          · exact absurd z (by simpa using zc7))] at kk
         exact kk)
  · refine g_iload_n dX4_named_4 rfl ?_
    refine g_bipush (v := 6) dX4_named_5 rfl ?_
    refine g_icmp_ge (tgt := 19) dX4_named_7 (by decide) (fun zc7 => ?_) (fun zc7 => ?_)
    · refine g_iconst (v := 0) dX4_named_19 rfl ?_
      refine g_iret dX4_named_20 rfl ⟨_, rfl, ?_⟩
      first
        | (rw [if_pos (Or.inl zc1)] at kk; exact kk)
        | (rw [if_pos (Or.inr zc7)] at kk; exact kk)
        | (rw [if_neg (fun z => by rcases z with z | z; exact zc1 z; exact zc7 z)] at kk; exact kk)
        | (rw [if_neg (fun z => by
            rcases z with z | z
            · exact zc1 z
            · exact absurd z (by simpa using zc7))] at kk
           exact kk)
    · refine g_aload_n dX4_named_10 rfl ?_
      refine g_getr dX4_named_11 fl_X4_19 h.1 h.2.2.2.2.1 ?_
      refine g_iload_n dX4_named_14 rfl ?_
      refine g_iald dX4_named_15 h.2.2.2.2.2 (by
        have h6 : ¬ x ≥ 6 := by simpa using zc7
        rw [vp_in_iff]
        rw [pI_lt] at zc1
        rw [pI_ge] at h6
        have e : (6 : Int32).toInt = 6 := by decide
        have e0 : (0 : Int32).toInt = 0 := by decide
        omega) ?_
      refine g_goto (tgt := 20) dX4_named_16 (by decide) ?_
      refine g_iret dX4_named_20 rfl ⟨_, rfl, ?_⟩
      first
        | (rw [if_pos (Or.inl zc1)] at kk; exact kk)
        | (rw [if_pos (Or.inr zc7)] at kk; exact kk)
        | (rw [if_neg (fun z => by rcases z with z | z; exact zc1 z; exact zc7 z)] at kk; exact kk)
        | (rw [if_neg (fun z => by
            rcases z with z | z
            · exact zc1 z
            · exact absurd z (by simpa using zc7))] at kk
           exact kk)
theorem stR_lay {w : gx_W} {l k : Nat} {st : List Int32} {x : Int32} (h : stR w l k st) (hlt : st.length < 64) : stR (s_i (s_a w k (va_up (w_a w k) st.length x)) l 5 (nI (st.length + 1))) l k (lw_lay x st) := by
  have e : lw_lay x st = x :: st := if_pos hlt
  rw [e]
  refine ⟨by rw [wi_si, if_pos ⟨rfl, rfl⟩, List.length_cons], by rw [List.length_cons]; omega, fun i hi => ?_⟩
  rw [List.length_cons] at hi ⊢
  rw [wa_si, wa_sa, if_pos rfl, up_at]
  by_cases hi2 : i = st.length
  · subst hi2
    rw [if_pos rfl]
    simp
  · rw [if_neg hi2, h.2.2 i (by omega)]
    have e2 : st.length + 1 - 1 - i = (st.length - 1 - i) + 1 := by omega
    rw [e2, List.getD_cons_succ]
theorem stR_full {w : gx_W} {l k : Nat} {st : List Int32} {x : Int32} (h : stR w l k st) (hlt : ¬ st.length < 64) : stR w l k (lw_lay x st) := by
  have e : lw_lay x st = st := if_neg hlt
  rw [e]
  exact h
theorem stR_take {w : gx_W} {l k : Nat} {x : Int32} {st : List Int32} (h : stR w l k (x :: st)) : stR (s_i w l 5 (nI st.length)) l k st ∧ w_a w k st.length = x := by
  have h1 := h.2.1
  rw [List.length_cons] at h1
  refine ⟨⟨by rw [wi_si, if_pos ⟨rfl, rfl⟩], by omega, fun i hi => ?_⟩, ?_⟩
  · rw [wa_si, h.2.2 i (by rw [List.length_cons]; omega), List.length_cons]
    have e2 : st.length + 1 - 1 - i = (st.length - 1 - i) + 1 := by omega
    rw [e2, List.getD_cons_succ]
  · rw [h.2.2 st.length (by rw [List.length_cons]; omega), List.length_cons]
    have e2 : st.length + 1 - 1 - st.length = 0 := by omega
    rw [e2, List.getD_cons_zero]
theorem c_X4_lay {d : Nat} {w : gx_W} {l s v k m : Nat} {st : List Int32} {x : Int32} {q : gx_W → Prop} (hd : 0 ≤ d) (h : isLw w l s v k m) (ht : stR w l k st) (kk : ∀ w', same [k] [(l, 5)] w w' → stR w' l k (lw_lay x st) → q w') : gx_C 0 0 d mX4_lay [.ref l, .int x] w (Qv q) := by
  refine gx_C_of' (L := [.ref l, .int x]) (by decide +kernel) rfl (Nat.le_of_ble_eq_true rfl) ?_
  refine g_aload_n dX4_lay_0 rfl ?_
  refine g_geti dX4_lay_1 fl_X4_26 h.1 ?_
  refine g_if_lt (tgt := 36) dX4_lay_4 (by decide) (fun zc4 => ?_) (fun zc4 => ?_)
  · refine g_vret dX4_lay_36 rfl ⟨rfl, ?_⟩
    exact absurd (show w_i w l 5 < 0 from zc4) (by rw [ht.1]; exact nI_pos (by have := ht.2.1; omega))
  · refine g_aload_n dX4_lay_7 rfl ?_
    refine g_geti dX4_lay_8 fl_X4_26 h.1 ?_
    refine g_bipush (v := 64) dX4_lay_11 rfl ?_
    refine g_icmp_ge (tgt := 36) dX4_lay_13 (by decide) (fun zc13 => ?_) (fun zc13 => ?_)
    · refine g_vret dX4_lay_36 rfl ⟨rfl, ?_⟩
      have hge : ¬ st.length < 64 := by
        intro hlt
        have c := zc13
        rw [ht.1] at c
        exact absurd c (nI_ge (b := 64) hlt (by decide))
      exact kk w same.rf (stR_full ht hge)
    · have hlt : st.length < 64 := by
        have c := zc13
        rw [ht.1, pI_le, nI_toInt (by have := ht.2.1; omega)] at c
        have e : (64 : Int32).toInt = 64 := by decide
        omega
      have hi : vp_in (w_i w l 5) 64 := by
        rw [ht.1]
        exact vp_in_nI hlt (by omega)
      refine g_aload_n dX4_lay_16 rfl ?_
      refine g_getr dX4_lay_17 fl_X4_16 h.1 h.2.2.2.1.1 ?_
      refine g_aload_n dX4_lay_20 rfl ?_
      refine g_geti dX4_lay_21 fl_X4_26 h.1 ?_
      refine g_iload_n dX4_lay_24 rfl ?_
      refine g_iast dX4_lay_25 h.2.2.2.1.2 hi ?_
      refine g_aload_n dX4_lay_26 rfl ?_
      refine g_dup dX4_lay_27 rfl ?_
      refine g_geti dX4_lay_28 fl_X4_26 h.1 ?_
      refine g_iconst (v := 1) dX4_lay_31 rfl ?_
      refine g_iadd dX4_lay_32 ?_
      refine g_puti dX4_lay_33 fl_X4_26 ft_4_5 h.1 ?_
      refine g_vret dX4_lay_36 rfl ⟨rfl, ?_⟩
      have e : s_i (s_a w k (va_up (w_a w k) (w_i w l 5).toNatClampNeg x)) l 5 (w_i w l 5 + 1) = s_i (s_a w k (va_up (w_a w k) st.length x)) l 5 (nI (st.length + 1)) := by
        rw [ht.1, nI_n (by omega), nI_succ]
      have K := kk _ ((same.rf.sa (k := k) (f := va_up (w_a w k) st.length x) (by simp)).si (k := l) (j := 5) (v := nI (st.length + 1)) (by simp)) (stR_lay ht hlt)
      rw [← e] at K
      exact K
theorem c_X4_take {d : Nat} {w : gx_W} {l s v k m : Nat} {st : List Int32} {q : Int32 → gx_W → Prop} (hd : 0 ≤ d) (h : isLw w l s v k m) (ht : stR w l k st) (kk : ∀ w', same [] [(l, 5)] w w' → stR w' l k st.tail → q (st.headD 0) w') : gx_C 0 0 d mX4_take [.ref l] w (Qi q) := by
  refine gx_C_of' (L := [.ref l]) (by decide +kernel) rfl (Nat.le_of_ble_eq_true rfl) ?_
  have hsz := ht.2.1
  have htop := ht.1
  refine g_aload_n dX4_take_0 rfl ?_
  refine g_geti dX4_take_1 fl_X4_26 h.1 ?_
  refine g_if_le (tgt := 16) dX4_take_4 (by decide) (fun zc4 => ?_) (fun zc4 => ?_)
  · refine g_iconst (v := 0) dX4_take_16 rfl ?_
    refine g_iret dX4_take_17 rfl ⟨_, rfl, ?_⟩
    first
      | (cases st with
         | nil => exact kk w same.rf ht
         | cons x0 st0 =>
           exfalso
           rw [List.length_cons] at hsz htop
           have c : w_i w l 5 ≤ 0 := zc4
           rw [htop, pI_le, nI_toInt (by omega)] at c
           have e : (0 : Int32).toInt = 0 := by decide
           omega)
      | (exfalso
         have c : w_i w l 5 > 64 := by simpa using zc13
         rw [htop, pI_gt, nI_toInt (by omega)] at c
         have e : (64 : Int32).toInt = 64 := by decide
         omega)
  · refine g_aload_n dX4_take_7 rfl ?_
    refine g_geti dX4_take_8 fl_X4_26 h.1 ?_
    refine g_bipush (v := 64) dX4_take_11 rfl ?_
    refine g_icmp_le (tgt := 18) dX4_take_13 (by decide) (fun zc13 => ?_) (fun zc13 => ?_)
    · cases st with
      | nil => exact absurd (show w_i w l 5 ≤ 0 by rw [htop]; decide) (by simpa using zc4)
      | cons x0 st0 =>
      obtain ⟨r1, r2⟩ := stR_take ht
      rw [List.length_cons] at hsz htop
      have ee : w_i w l 5 - 1 = nI st0.length := by rw [htop, nI_pred]
      have ei : w_i (s_i w l 5 (w_i w l 5 - 1)) l 5 = nI st0.length := by rw [wi_si, if_pos ⟨rfl, rfl⟩, ee]
      have hi : vp_in (w_i (s_i w l 5 (w_i w l 5 - 1)) l 5) 64 := by rw [ei]; exact vp_in_nI (by omega) (by omega)
      refine g_aload_n dX4_take_18 rfl ?_
      refine g_dup dX4_take_19 rfl ?_
      refine g_geti dX4_take_20 fl_X4_26 h.1 ?_
      refine g_iconst (v := 1) dX4_take_23 rfl ?_
      refine g_isub dX4_take_24 ?_
      refine g_puti dX4_take_25 fl_X4_26 ft_4_5 h.1 ?_
      refine g_aload_n dX4_take_28 rfl ?_
      refine g_getr dX4_take_29 fl_X4_16 h.1 h.2.2.2.1.1 ?_
      refine g_aload_n dX4_take_32 rfl ?_
      refine g_geti dX4_take_33 fl_X4_26 h.1 ?_
      refine g_iald dX4_take_36 h.2.2.2.1.2 hi ?_
      refine g_iret dX4_take_37 rfl ⟨_, rfl, ?_⟩
      rw [ei, nI_n (by omega), wa_si, r2, ee]
      exact kk _ (same.rf.si (by simp)) r1
    · refine g_iconst (v := 0) dX4_take_16 rfl ?_
      refine g_iret dX4_take_17 rfl ⟨_, rfl, ?_⟩
      first
        | (cases st with
           | nil => exact kk w same.rf ht
           | cons x0 st0 =>
             exfalso
             rw [List.length_cons] at hsz htop
             have c : w_i w l 5 ≤ 0 := zc4
             rw [htop, pI_le, nI_toInt (by omega)] at c
             have e : (0 : Int32).toInt = 0 := by decide
             omega)
        | (exfalso
           have c : w_i w l 5 > 64 := by simpa using zc13
           rw [htop, pI_gt, nI_toInt (by omega)] at c
           have e : (64 : Int32).toInt = 64 := by decide
           omega)
set_option maxHeartbeats 4000000 in
theorem c_X4_joined {d : Nat} {w : gx_W} {sg a b : Int32} {q : Int32 → gx_W → Prop} (hd : 0 ≤ d) (kk : q (lw_two sg a b) w) : gx_C 0 0 d mX4_joined [.int sg, .int a, .int b] w (Qi q) := by
  refine gx_C_of' (L := [.int sg, .int a, .int b]) (by decide +kernel) rfl (Nat.le_of_ble_eq_true rfl) ?_
  refine g_iload_n dX4_joined_0 rfl ?_
  by_cases s1_0 : sg = 37
  · refine g_lookup (off := 176) (tgt := 177) dX4_joined_1 (by decide) (by rw [s1_0]; rfl) (by decide) ?_
    refine g_iload_n dX4_joined_177 rfl ?_
    refine g_if_ne (tgt := 185) dX4_joined_178 (by decide) (fun zc178 => ?_) (fun zc178 => ?_)
    · refine g_iload_n dX4_joined_185 rfl ?_
      refine g_iload_n dX4_joined_186 rfl ?_
      refine g_irem dX4_joined_187 (by simpa using zc178) ?_
      refine g_iret dX4_joined_188 rfl ⟨_, rfl, ?_⟩
      unfold lw_two at kk
      simp_all
      try (rw [if_neg (Int32.not_lt.mpr (by assumption))] at kk; exact kk)
    · refine g_iconst (v := 0) dX4_joined_181 rfl ?_
      refine g_goto (tgt := 188) dX4_joined_182 (by decide) ?_
      refine g_iret dX4_joined_188 rfl ⟨_, rfl, ?_⟩
      unfold lw_two at kk
      simp_all
      try (rw [if_neg (Int32.not_lt.mpr (by assumption))] at kk; exact kk)
  by_cases s1_1 : sg = 38
  · refine g_lookup (off := 105) (tgt := 106) dX4_joined_1 (by decide) (by rw [s1_1]; rfl) (by decide) ?_
    refine g_iload_n dX4_joined_106 rfl ?_
    refine g_if_eq (tgt := 118) dX4_joined_107 (by decide) (fun zc107 => ?_) (fun zc107 => ?_)
    · refine g_iconst (v := 0) dX4_joined_118 rfl ?_
      refine g_iret dX4_joined_119 rfl ⟨_, rfl, ?_⟩
      unfold lw_two at kk
      simp_all
      try (rw [if_neg (Int32.not_lt.mpr (by assumption))] at kk; exact kk)
    · refine g_iload_n dX4_joined_110 rfl ?_
      refine g_if_eq (tgt := 118) dX4_joined_111 (by decide) (fun zc111 => ?_) (fun zc111 => ?_)
      · refine g_iconst (v := 0) dX4_joined_118 rfl ?_
        refine g_iret dX4_joined_119 rfl ⟨_, rfl, ?_⟩
        unfold lw_two at kk
        simp_all
        try (rw [if_neg (Int32.not_lt.mpr (by assumption))] at kk; exact kk)
      · refine g_iconst (v := 1) dX4_joined_114 rfl ?_
        refine g_goto (tgt := 119) dX4_joined_115 (by decide) ?_
        refine g_iret dX4_joined_119 rfl ⟨_, rfl, ?_⟩
        unfold lw_two at kk
        simp_all
        try (rw [if_neg (Int32.not_lt.mpr (by assumption))] at kk; exact kk)
  by_cases s1_2 : sg = 42
  · refine g_lookup (off := 160) (tgt := 161) dX4_joined_1 (by decide) (by rw [s1_2]; rfl) (by decide) ?_
    refine g_iload_n dX4_joined_161 rfl ?_
    refine g_iload_n dX4_joined_162 rfl ?_
    refine g_imul dX4_joined_163 ?_
    refine g_iret dX4_joined_164 rfl ⟨_, rfl, ?_⟩
    unfold lw_two at kk
    simp_all
    try (rw [if_neg (Int32.not_lt.mpr (by assumption))] at kk; exact kk)
  by_cases s1_3 : sg = 43
  · refine g_lookup (off := 152) (tgt := 153) dX4_joined_1 (by decide) (by rw [s1_3]; rfl) (by decide) ?_
    refine g_iload_n dX4_joined_153 rfl ?_
    refine g_iload_n dX4_joined_154 rfl ?_
    refine g_iadd dX4_joined_155 ?_
    refine g_iret dX4_joined_156 rfl ⟨_, rfl, ?_⟩
    unfold lw_two at kk
    simp_all
    try (rw [if_neg (Int32.not_lt.mpr (by assumption))] at kk; exact kk)
  by_cases s1_4 : sg = 45
  · refine g_lookup (off := 156) (tgt := 157) dX4_joined_1 (by decide) (by rw [s1_4]; rfl) (by decide) ?_
    refine g_iload_n dX4_joined_157 rfl ?_
    refine g_iload_n dX4_joined_158 rfl ?_
    refine g_isub dX4_joined_159 ?_
    refine g_iret dX4_joined_160 rfl ⟨_, rfl, ?_⟩
    unfold lw_two at kk
    simp_all
    try (rw [if_neg (Int32.not_lt.mpr (by assumption))] at kk; exact kk)
  by_cases s1_5 : sg = 47
  · refine g_lookup (off := 164) (tgt := 165) dX4_joined_1 (by decide) (by rw [s1_5]; rfl) (by decide) ?_
    refine g_iload_n dX4_joined_165 rfl ?_
    refine g_if_ne (tgt := 173) dX4_joined_166 (by decide) (fun zc166 => ?_) (fun zc166 => ?_)
    · refine g_iload_n dX4_joined_173 rfl ?_
      refine g_iload_n dX4_joined_174 rfl ?_
      refine g_idiv dX4_joined_175 (by simpa using zc166) ?_
      refine g_iret dX4_joined_176 rfl ⟨_, rfl, ?_⟩
      unfold lw_two at kk
      simp_all
      try (rw [if_neg (Int32.not_lt.mpr (by assumption))] at kk; exact kk)
    · refine g_iconst (v := 0) dX4_joined_169 rfl ?_
      refine g_goto (tgt := 176) dX4_joined_170 (by decide) ?_
      refine g_iret dX4_joined_176 rfl ⟨_, rfl, ?_⟩
      unfold lw_two at kk
      simp_all
      try (rw [if_neg (Int32.not_lt.mpr (by assumption))] at kk; exact kk)
  by_cases s1_6 : sg = 60
  · refine g_lookup (off := 119) (tgt := 120) dX4_joined_1 (by decide) (by rw [s1_6]; rfl) (by decide) ?_
    refine g_iload_n dX4_joined_120 rfl ?_
    refine g_iload_n dX4_joined_121 rfl ?_
    refine g_icmp_ge (tgt := 129) dX4_joined_122 (by decide) (fun zc122 => ?_) (fun zc122 => ?_)
    · refine g_iconst (v := 0) dX4_joined_129 rfl ?_
      refine g_iret dX4_joined_130 rfl ⟨_, rfl, ?_⟩
      unfold lw_two at kk
      simp_all
      try (rw [if_neg (Int32.not_lt.mpr (by assumption))] at kk; exact kk)
    · refine g_iconst (v := 1) dX4_joined_125 rfl ?_
      refine g_goto (tgt := 130) dX4_joined_126 (by decide) ?_
      refine g_iret dX4_joined_130 rfl ⟨_, rfl, ?_⟩
      unfold lw_two at kk
      simp_all
      try (rw [if_neg (Int32.not_lt.mpr (by assumption))] at kk; exact kk)
  by_cases s1_7 : sg = 61
  · refine g_lookup (off := 130) (tgt := 131) dX4_joined_1 (by decide) (by rw [s1_7]; rfl) (by decide) ?_
    refine g_iload_n dX4_joined_131 rfl ?_
    refine g_iload_n dX4_joined_132 rfl ?_
    refine g_icmp_ne (tgt := 140) dX4_joined_133 (by decide) (fun zc133 => ?_) (fun zc133 => ?_)
    · refine g_iconst (v := 0) dX4_joined_140 rfl ?_
      refine g_iret dX4_joined_141 rfl ⟨_, rfl, ?_⟩
      unfold lw_two at kk
      simp_all
      try (rw [if_neg (Int32.not_lt.mpr (by assumption))] at kk; exact kk)
    · refine g_iconst (v := 1) dX4_joined_136 rfl ?_
      refine g_goto (tgt := 141) dX4_joined_137 (by decide) ?_
      refine g_iret dX4_joined_141 rfl ⟨_, rfl, ?_⟩
      unfold lw_two at kk
      simp_all
      try (rw [if_neg (Int32.not_lt.mpr (by assumption))] at kk; exact kk)
  by_cases s1_8 : sg = 62
  · refine g_lookup (off := 141) (tgt := 142) dX4_joined_1 (by decide) (by rw [s1_8]; rfl) (by decide) ?_
    refine g_iload_n dX4_joined_142 rfl ?_
    refine g_iload_n dX4_joined_143 rfl ?_
    refine g_icmp_le (tgt := 151) dX4_joined_144 (by decide) (fun zc144 => ?_) (fun zc144 => ?_)
    · refine g_iconst (v := 0) dX4_joined_151 rfl ?_
      refine g_iret dX4_joined_152 rfl ⟨_, rfl, ?_⟩
      unfold lw_two at kk
      simp_all
      try (rw [if_neg (Int32.not_lt.mpr (by assumption))] at kk; exact kk)
    · refine g_iconst (v := 1) dX4_joined_147 rfl ?_
      refine g_goto (tgt := 152) dX4_joined_148 (by decide) ?_
      refine g_iret dX4_joined_152 rfl ⟨_, rfl, ?_⟩
      unfold lw_two at kk
      simp_all
      try (rw [if_neg (Int32.not_lt.mpr (by assumption))] at kk; exact kk)
  by_cases s1_9 : sg = 124
  · refine g_lookup (off := 91) (tgt := 92) dX4_joined_1 (by decide) (by rw [s1_9]; rfl) (by decide) ?_
    refine g_iload_n dX4_joined_92 rfl ?_
    refine g_if_ne (tgt := 100) dX4_joined_93 (by decide) (fun zc93 => ?_) (fun zc93 => ?_)
    · refine g_iconst (v := 1) dX4_joined_100 rfl ?_
      refine g_goto (tgt := 105) dX4_joined_101 (by decide) ?_
      refine g_iret dX4_joined_105 rfl ⟨_, rfl, ?_⟩
      unfold lw_two at kk
      simp_all
      try (rw [if_neg (Int32.not_lt.mpr (by assumption))] at kk; exact kk)
    · refine g_iload_n dX4_joined_96 rfl ?_
      refine g_if_eq (tgt := 104) dX4_joined_97 (by decide) (fun zc97 => ?_) (fun zc97 => ?_)
      · refine g_iconst (v := 0) dX4_joined_104 rfl ?_
        refine g_iret dX4_joined_105 rfl ⟨_, rfl, ?_⟩
        unfold lw_two at kk
        simp_all
        try (rw [if_neg (Int32.not_lt.mpr (by assumption))] at kk; exact kk)
      · refine g_iconst (v := 1) dX4_joined_100 rfl ?_
        refine g_goto (tgt := 105) dX4_joined_101 (by decide) ?_
        refine g_iret dX4_joined_105 rfl ⟨_, rfl, ?_⟩
        unfold lw_two at kk
        simp_all
        try (rw [if_neg (Int32.not_lt.mpr (by assumption))] at kk; exact kk)
  refine g_lookup (off := 188) (tgt := 189) dX4_joined_1 (by decide) (by
      show Op.lookupswitch.offset [(37, 176), (38, 105), (42, 160), (43, 152), (45, 156), (47, 164), (60, 119), (61, 130), (62, 141), (124, 91)] (188) _ = _
      rw [lv_osw s1_0 (by decide), lv_osw s1_1 (by decide), lv_osw s1_2 (by decide), lv_osw s1_3 (by decide), lv_osw s1_4 (by decide), lv_osw s1_5 (by decide), lv_osw s1_6 (by decide), lv_osw s1_7 (by decide), lv_osw s1_8 (by decide), lv_osw s1_9 (by decide)]
      rfl) (by decide) ?_
  refine g_iconst (v := 0) dX4_joined_189 rfl ?_
  refine g_iret dX4_joined_190 rfl ⟨_, rfl, ?_⟩
  unfold lw_two at kk
  simp_all
  try (rw [if_neg (Int32.not_lt.mpr (by assumption))] at kk; exact kk)
theorem lw_run_nm {sg va nm nm' : Nat → Int32} (h : ∀ j, j < 6 → nm j = nm' j) : ∀ (z i : Nat) (sk : Bool) (st : List Int32), lw_run sg va nm z i sk st = lw_run sg va nm' z i sk st := by
  have hs : ∀ (a b : Int32) (st : List Int32), lw_step nm a b st = lw_step nm' a b st := by
    intro a b st
    unfold lw_step
    by_cases hb : b < 0 ∨ b ≥ 6
    · rw [if_pos hb, if_pos hb]
    · have e : nm b.toNatClampNeg = nm' b.toNatClampNeg := by
        apply h
        have h1 : ¬ b < 0 := fun z => hb (Or.inl z)
        have h2 : ¬ b ≥ 6 := fun z => hb (Or.inr z)
        rw [pI_lt] at h1
        rw [pI_ge] at h2
        have e : (6 : Int32).toInt = 6 := by decide
        have e0 : (0 : Int32).toInt = 0 := by decide
        show b.toInt.toNat < 6
        omega
      rw [if_neg hb, if_neg hb, e]
  intro z
  induction z with
  | zero => intro i sk st; rfl
  | succ z ih =>
    intro i sk st
    unfold lw_run
    simp only [ih, hs]
set_option maxHeartbeats 8000000 in
theorem l_X4_gives {d l s v k m N : Nat} {w : gx_W} {q : Int32 → gx_W → Prop} {a1 a2 a3 a4 a5 a6 R : Int32} {NM : Nat → Int32} (hd : 2 ≤ d) (h : isLw w l s v k m) (hN : w_i w l 4 = nI N) (hb : N ≤ 128) (hne : s ≠ k ∧ s ≠ m ∧ v ≠ k ∧ v ≠ m ∧ k ≠ m) (kk : ∀ w', same [k, m] [(l, 5)] w w' → q R w') : ∀ z i : Nat, i + z = N → ∀ (sk : Bool) (x9 x10 x11 : Value) (st : List Int32) (w' : gx_W), same [k, m] [(l, 5)] w w' → w_a w' m = NM → stR w' l k st → lw_run (w_a w s) (w_a w v) NM z i sk st = R → gx_G 0 0 d mX4_gives (Qi q) 56 [.ref l, .int a1, .int a2, .int a3, .int a4, .int a5, .int a6, .int (if sk then 1 else 0), .int (nI i), x9, x10, x11] [] w' := by
  intro z
  induction z with
  | zero =>
    intro i hi sk x9 x10 x11 st w' hw hm ht hR
    have hl := h.same hw
    have hN' : w_i w' l 4 = nI N := (hw.2.1 l 4 (by simp)).trans hN
    refine g_iload dX4_gives_56 rfl ?_
    refine g_aload_n dX4_gives_58 rfl ?_
    refine g_geti dX4_gives_59 fl_X4_22 hl.1 ?_
    refine g_icmp_ge (tgt := 254) dX4_gives_62 (by decide) (fun zc62 => ?_) (fun zc62 => ?_)
    · refine g_iconst (v := 0) dX4_gives_254 rfl ?_
      refine g_iret dX4_gives_255 rfl ⟨_, rfl, ?_⟩
      rw [show (0 : Int32) = R from hR]
      exact kk _ hw
    · have e : i = N := by omega
      subst e
      rw [hN'] at zc62
      exact absurd (Int32.le_refl _) zc62
  | succ z ih =>
    intro i hi sk x9 x10 x11 st w' hw hm ht hR
    have hl := h.same hw
    have hN' : w_i w' l 4 = nI N := (hw.2.1 l 4 (by simp)).trans hN
    have hsg : w_a w' s = w_a w s := (hw.2.2.2.1 s (by simp [hne.1, hne.2.1])).1
    have hva : w_a w' v = w_a w v := (hw.2.2.2.1 v (by simp [hne.2.2.1, hne.2.2.2.1])).1
    obtain ⟨sg, hsgi⟩ : ∃ x, w_a w s i = x := ⟨_, rfl⟩
    obtain ⟨va, hvai⟩ : ∃ x, w_a w v i = x := ⟨_, rfl⟩
    have hi128 : vp_in (nI i) 128 := vp_in_nI (by omega) (by omega)
    cases sk with
    | true =>
      show gx_G 0 0 d mX4_gives (Qi q) 56 [.ref l, .int a1, .int a2, .int a3, .int a4, .int a5, .int a6, .int 1, .int (nI i), x9, x10, x11] [] w'
      refine g_iload dX4_gives_56 rfl ?_
      refine g_aload_n dX4_gives_58 rfl ?_
      refine g_geti dX4_gives_59 fl_X4_22 hl.1 ?_
      refine g_icmp_ge (tgt := 254) dX4_gives_62 (by decide) (fun zc62 => ?_) (fun zc62 => ?_)
      · refine g_iconst (v := 0) dX4_gives_254 rfl ?_
        refine g_iret dX4_gives_255 rfl ⟨_, rfl, ?_⟩
        exact absurd (show nI N ≤ nI i by rw [← hN']; exact zc62) (nI_ge (by omega) (by omega))
      · refine g_aload_n dX4_gives_65 rfl ?_
        refine g_getr dX4_gives_66 fl_X4_9 hl.1 hl.2.1.1 ?_
        refine g_iload dX4_gives_69 rfl ?_
        refine g_iald dX4_gives_71 hl.2.1.2 hi128 ?_
        rw [nI_n (by omega), hsg, hsgi]
        refine g_istore dX4_gives_72 (Nat.le_of_ble_eq_true rfl) rfl ?_
        refine g_iload dX4_gives_74 rfl ?_
        refine g_if_eq (tgt := 96) dX4_gives_76 (by decide) (fun q => absurd q (by decide)) (fun _ => ?_)
        refine g_iload dX4_gives_79 rfl ?_
        refine g_bipush (v := 59) dX4_gives_81 rfl ?_
        refine g_icmp_eq (tgt := 90) dX4_gives_83 (by decide) (fun zc83 => ?_) (fun zc83 => ?_)
        · refine g_iconst (v := 0) dX4_gives_90 rfl ?_
          refine g_istore dX4_gives_91 (Nat.le_of_ble_eq_true rfl) rfl ?_
          refine g_goto (tgt := 248) dX4_gives_93 (by decide) ?_
          refine g_iinc dX4_gives_248 rfl rfl ?_
          refine g_goto (tgt := 56) dX4_gives_251 (by decide) ?_
          rw [nI_1']
          exact ih (i + 1) (by omega) false _ _ _ _ w' hw hm ht (by
            rw [← hR]
            simp_all [lw_run, lw_step])
        · refine g_iconst (v := 1) dX4_gives_86 rfl ?_
          refine g_goto (tgt := 91) dX4_gives_87 (by decide) ?_
          refine g_istore dX4_gives_91 (Nat.le_of_ble_eq_true rfl) rfl ?_
          refine g_goto (tgt := 248) dX4_gives_93 (by decide) ?_
          refine g_iinc dX4_gives_248 rfl rfl ?_
          refine g_goto (tgt := 56) dX4_gives_251 (by decide) ?_
          rw [nI_1']
          exact ih (i + 1) (by omega) true _ _ _ _ w' hw hm ht (by
            rw [← hR]
            simp_all [lw_run, lw_step])
    | false =>
      show gx_G 0 0 d mX4_gives (Qi q) 56 [.ref l, .int a1, .int a2, .int a3, .int a4, .int a5, .int a6, .int 0, .int (nI i), x9, x10, x11] [] w'
      refine g_iload dX4_gives_56 rfl ?_
      refine g_aload_n dX4_gives_58 rfl ?_
      refine g_geti dX4_gives_59 fl_X4_22 hl.1 ?_
      refine g_icmp_ge (tgt := 254) dX4_gives_62 (by decide) (fun zc62 => ?_) (fun zc62 => ?_)
      · refine g_iconst (v := 0) dX4_gives_254 rfl ?_
        refine g_iret dX4_gives_255 rfl ⟨_, rfl, ?_⟩
        exact absurd (show nI N ≤ nI i by rw [← hN']; exact zc62) (nI_ge (by omega) (by omega))
      · refine g_aload_n dX4_gives_65 rfl ?_
        refine g_getr dX4_gives_66 fl_X4_9 hl.1 hl.2.1.1 ?_
        refine g_iload dX4_gives_69 rfl ?_
        refine g_iald dX4_gives_71 hl.2.1.2 hi128 ?_
        rw [nI_n (by omega), hsg, hsgi]
        refine g_istore dX4_gives_72 (Nat.le_of_ble_eq_true rfl) rfl ?_
        refine g_iload dX4_gives_74 rfl ?_
        refine g_if_eq (tgt := 96) dX4_gives_76 (by decide) (fun _ => ?_) (fun q => absurd q (by decide))
        refine g_iload dX4_gives_96 rfl ?_
        refine g_bipush (v := 59) dX4_gives_98 rfl ?_
        refine g_icmp_ne (tgt := 108) dX4_gives_100 (by decide) (fun zc100 => ?_) (fun zc100 => ?_)
        · refine g_iload dX4_gives_108 rfl ?_
          refine g_bipush (v := 63) dX4_gives_110 rfl ?_
          refine g_icmp_ne (tgt := 132) dX4_gives_112 (by decide) (fun zc112 => ?_) (fun zc112 => ?_)
          · refine g_iload dX4_gives_132 rfl ?_
            refine g_bipush (v := 48) dX4_gives_134 rfl ?_
            refine g_icmp_ne (tgt := 153) dX4_gives_136 (by decide) (fun zc136 => ?_) (fun zc136 => ?_)
            · refine g_iload dX4_gives_153 rfl ?_
              refine g_bipush (v := 110) dX4_gives_155 rfl ?_
              refine g_icmp_ne (tgt := 178) dX4_gives_157 (by decide) (fun zc157 => ?_) (fun zc157 => ?_)
              · refine g_iload dX4_gives_178 rfl ?_
                refine g_bipush (v := 33) dX4_gives_180 rfl ?_
                refine g_icmp_ne (tgt := 204) dX4_gives_182 (by decide) (fun zc182 => ?_) (fun zc182 => ?_)
                · refine g_iload dX4_gives_204 rfl ?_
                  refine g_bipush (v := 126) dX4_gives_206 rfl ?_
                  refine g_icmp_ne (tgt := 223) dX4_gives_208 (by decide) (fun zc208 => ?_) (fun zc208 => ?_)
                  · refine g_aload_n dX4_gives_223 rfl ?_
                    refine g_cV0i dX4_gives_224 ml_X4_29 mi_X4_take mv_X4_take hl.1 ⟨_, rfl, rfl⟩ (Nat.le_of_ble_eq_true rfl) rfl (by omega) ?_
                    refine c_X4_take (by omega) hl ht (fun w224 hs224 ht224 => ?_)
                    have hq224 := hs224.wk (R' := [k, m]) (F' := [(l, 5)]) (by simp) (by simp)
                    have hm224 := ((hs224.wk (R' := [k]) (F' := [(l, 5)]) (by simp) (by simp)).2.2.2.1 m (by simpa using Ne.symm hne.2.2.2.2)).1.trans hm
                    refine g_istore dX4_gives_227 (Nat.le_of_ble_eq_true rfl) rfl ?_
                    refine g_aload_n dX4_gives_229 rfl ?_
                    refine g_cV0i dX4_gives_230 ml_X4_29 mi_X4_take mv_X4_take (hl.same hq224).1 ⟨_, rfl, rfl⟩ (Nat.le_of_ble_eq_true rfl) rfl (by omega) ?_
                    refine c_X4_take (by omega) (hl.same hq224) ht224 (fun w230 hs230 ht230 => ?_)
                    have hq230 := hq224.tr (hs230.wk (R' := [k, m]) (F' := [(l, 5)]) (by simp) (by simp))
                    have hm230 := ((hs230.wk (R' := [k]) (F' := [(l, 5)]) (by simp) (by simp)).2.2.2.1 m (by simpa using Ne.symm hne.2.2.2.2)).1.trans hm224
                    refine g_istore dX4_gives_233 (Nat.le_of_ble_eq_true rfl) rfl ?_
                    refine g_aload_n dX4_gives_235 rfl ?_
                    refine g_iload dX4_gives_236 rfl ?_
                    refine g_iload dX4_gives_238 rfl ?_
                    refine g_iload dX4_gives_240 rfl ?_
                    refine g_cS3i dX4_gives_242 ml_X4_41 mi_X4_joined ms_X4_joined (Nat.le_of_ble_eq_true rfl) rfl (by omega) ?_
                    refine c_X4_joined (by omega) ?_
                    refine g_cV1v dX4_gives_245 ml_X4_33 mi_X4_lay mv_X4_lay (hl.same hq230).1 ⟨_, rfl, rfl⟩ (Nat.le_of_ble_eq_true rfl) rfl (by omega) ?_
                    refine c_X4_lay (by omega) (hl.same hq230) ht230 (fun w245 hs245 ht245 => ?_)
                    refine g_iinc dX4_gives_248 rfl rfl ?_
                    refine g_goto (tgt := 56) dX4_gives_251 (by decide) ?_
                    have hq245 := hq230.tr (hs245.wk (R' := [k, m]) (F' := [(l, 5)]) (by simp) (by simp))
                    have hm245 := ((hs245.wk (R' := [k]) (F' := [(l, 5)]) (by simp) (by simp)).2.2.2.1 m (by simpa using Ne.symm hne.2.2.2.2)).1.trans hm230
                    rw [nI_1']
                    exact ih (i + 1) (by omega) false _ _ _ _ w245 (hw.tr hq245) hm245 ht245 (by
                      rw [← hR]
                      simp_all [lw_run, lw_step])
                  · refine g_aload_n dX4_gives_211 rfl ?_
                    refine g_aload_n dX4_gives_212 rfl ?_
                    refine g_cV0i dX4_gives_213 ml_X4_29 mi_X4_take mv_X4_take hl.1 ⟨_, rfl, rfl⟩ (Nat.le_of_ble_eq_true rfl) rfl (by omega) ?_
                    refine c_X4_take (by omega) hl ht (fun w213 hs213 ht213 => ?_)
                    have hq213 := hs213.wk (R' := [k, m]) (F' := [(l, 5)]) (by simp) (by simp)
                    have hm213 := ((hs213.wk (R' := [k]) (F' := [(l, 5)]) (by simp) (by simp)).2.2.2.1 m (by simpa using Ne.symm hne.2.2.2.2)).1.trans hm
                    refine g_ineg dX4_gives_216 ?_
                    refine g_cV1v dX4_gives_217 ml_X4_33 mi_X4_lay mv_X4_lay (hl.same hq213).1 ⟨_, rfl, rfl⟩ (Nat.le_of_ble_eq_true rfl) rfl (by omega) ?_
                    refine c_X4_lay (by omega) (hl.same hq213) ht213 (fun w217 hs217 ht217 => ?_)
                    have hq217 := hq213.tr (hs217.wk (R' := [k, m]) (F' := [(l, 5)]) (by simp) (by simp))
                    have hm217 := ((hs217.wk (R' := [k]) (F' := [(l, 5)]) (by simp) (by simp)).2.2.2.1 m (by simpa using Ne.symm hne.2.2.2.2)).1.trans hm213
                    refine g_goto (tgt := 248) dX4_gives_220 (by decide) ?_
                    refine g_iinc dX4_gives_248 rfl rfl ?_
                    refine g_goto (tgt := 56) dX4_gives_251 (by decide) ?_
                    rw [nI_1']
                    exact ih (i + 1) (by omega) false _ _ _ _ w217 (hw.tr hq217) hm217 ht217 (by
                      rw [← hR]
                      simp_all [lw_run, lw_step])
                · refine g_aload_n dX4_gives_185 rfl ?_
                  refine g_aload_n dX4_gives_186 rfl ?_
                  refine g_cV0i dX4_gives_187 ml_X4_29 mi_X4_take mv_X4_take hl.1 ⟨_, rfl, rfl⟩ (Nat.le_of_ble_eq_true rfl) rfl (by omega) ?_
                  refine c_X4_take (by omega) hl ht (fun w187 hs187 ht187 => ?_)
                  have hq187 := hs187.wk (R' := [k, m]) (F' := [(l, 5)]) (by simp) (by simp)
                  have hm187 := ((hs187.wk (R' := [k]) (F' := [(l, 5)]) (by simp) (by simp)).2.2.2.1 m (by simpa using Ne.symm hne.2.2.2.2)).1.trans hm
                  refine g_if_ne (tgt := 197) dX4_gives_190 (by decide) (fun zc190 => ?_) (fun zc190 => ?_)
                  · refine g_iconst (v := 0) dX4_gives_197 rfl ?_
                    refine g_cV1v dX4_gives_198 ml_X4_33 mi_X4_lay mv_X4_lay (hl.same hq187).1 ⟨_, rfl, rfl⟩ (Nat.le_of_ble_eq_true rfl) rfl (by omega) ?_
                    refine c_X4_lay (by omega) (hl.same hq187) ht187 (fun w198 hs198 ht198 => ?_)
                    have hq198 := hq187.tr (hs198.wk (R' := [k, m]) (F' := [(l, 5)]) (by simp) (by simp))
                    have hm198 := ((hs198.wk (R' := [k]) (F' := [(l, 5)]) (by simp) (by simp)).2.2.2.1 m (by simpa using Ne.symm hne.2.2.2.2)).1.trans hm187
                    refine g_goto (tgt := 248) dX4_gives_201 (by decide) ?_
                    refine g_iinc dX4_gives_248 rfl rfl ?_
                    refine g_goto (tgt := 56) dX4_gives_251 (by decide) ?_
                    rw [nI_1']
                    exact ih (i + 1) (by omega) false _ _ _ _ w198 (hw.tr hq198) hm198 ht198 (by
                      rw [← hR]
                      simp_all [lw_run, lw_step])
                  · refine g_iconst (v := 1) dX4_gives_193 rfl ?_
                    refine g_goto (tgt := 198) dX4_gives_194 (by decide) ?_
                    refine g_cV1v dX4_gives_198 ml_X4_33 mi_X4_lay mv_X4_lay (hl.same hq187).1 ⟨_, rfl, rfl⟩ (Nat.le_of_ble_eq_true rfl) rfl (by omega) ?_
                    refine c_X4_lay (by omega) (hl.same hq187) ht187 (fun w198 hs198 ht198 => ?_)
                    have hq198 := hq187.tr (hs198.wk (R' := [k, m]) (F' := [(l, 5)]) (by simp) (by simp))
                    have hm198 := ((hs198.wk (R' := [k]) (F' := [(l, 5)]) (by simp) (by simp)).2.2.2.1 m (by simpa using Ne.symm hne.2.2.2.2)).1.trans hm187
                    refine g_goto (tgt := 248) dX4_gives_201 (by decide) ?_
                    refine g_iinc dX4_gives_248 rfl rfl ?_
                    refine g_goto (tgt := 56) dX4_gives_251 (by decide) ?_
                    rw [nI_1']
                    exact ih (i + 1) (by omega) false _ _ _ _ w198 (hw.tr hq198) hm198 ht198 (by
                      rw [← hR]
                      simp_all [lw_run, lw_step])
              · refine g_aload_n dX4_gives_160 rfl ?_
                refine g_aload_n dX4_gives_161 rfl ?_
                refine g_aload_n dX4_gives_162 rfl ?_
                refine g_getr dX4_gives_163 fl_X4_13 hl.1 hl.2.2.1.1 ?_
                refine g_iload dX4_gives_166 rfl ?_
                refine g_iald dX4_gives_168 hl.2.2.1.2 hi128 ?_
                rw [nI_n (by omega), hva, hvai]
                refine g_cV1i dX4_gives_169 ml_X4_37 mi_X4_named mv_X4_named hl.1 ⟨_, rfl, rfl⟩ (Nat.le_of_ble_eq_true rfl) rfl (by omega) ?_
                refine c_X4_named (by omega) hl ?_
                rw [hm]
                refine g_cV1v dX4_gives_172 ml_X4_33 mi_X4_lay mv_X4_lay hl.1 ⟨_, rfl, rfl⟩ (Nat.le_of_ble_eq_true rfl) rfl (by omega) ?_
                refine c_X4_lay (by omega) hl ht (fun w172 hs172 ht172 => ?_)
                have hq172 := hs172.wk (R' := [k, m]) (F' := [(l, 5)]) (by simp) (by simp)
                have hm172 := ((hs172.wk (R' := [k]) (F' := [(l, 5)]) (by simp) (by simp)).2.2.2.1 m (by simpa using Ne.symm hne.2.2.2.2)).1.trans hm
                refine g_goto (tgt := 248) dX4_gives_175 (by decide) ?_
                refine g_iinc dX4_gives_248 rfl rfl ?_
                refine g_goto (tgt := 56) dX4_gives_251 (by decide) ?_
                rw [nI_1']
                exact ih (i + 1) (by omega) false _ _ _ _ w172 (hw.tr hq172) hm172 ht172 (by
                  rw [← hR]
                  simp_all [lw_run, lw_step])
            · refine g_aload_n dX4_gives_139 rfl ?_
              refine g_aload_n dX4_gives_140 rfl ?_
              refine g_getr dX4_gives_141 fl_X4_13 hl.1 hl.2.2.1.1 ?_
              refine g_iload dX4_gives_144 rfl ?_
              refine g_iald dX4_gives_146 hl.2.2.1.2 hi128 ?_
              rw [nI_n (by omega), hva, hvai]
              refine g_cV1v dX4_gives_147 ml_X4_33 mi_X4_lay mv_X4_lay hl.1 ⟨_, rfl, rfl⟩ (Nat.le_of_ble_eq_true rfl) rfl (by omega) ?_
              refine c_X4_lay (by omega) hl ht (fun w147 hs147 ht147 => ?_)
              have hq147 := hs147.wk (R' := [k, m]) (F' := [(l, 5)]) (by simp) (by simp)
              have hm147 := ((hs147.wk (R' := [k]) (F' := [(l, 5)]) (by simp) (by simp)).2.2.2.1 m (by simpa using Ne.symm hne.2.2.2.2)).1.trans hm
              refine g_goto (tgt := 248) dX4_gives_150 (by decide) ?_
              refine g_iinc dX4_gives_248 rfl rfl ?_
              refine g_goto (tgt := 56) dX4_gives_251 (by decide) ?_
              rw [nI_1']
              exact ih (i + 1) (by omega) false _ _ _ _ w147 (hw.tr hq147) hm147 ht147 (by
                rw [← hR]
                simp_all [lw_run, lw_step])
          · refine g_aload_n dX4_gives_115 rfl ?_
            refine g_cV0i dX4_gives_116 ml_X4_29 mi_X4_take mv_X4_take hl.1 ⟨_, rfl, rfl⟩ (Nat.le_of_ble_eq_true rfl) rfl (by omega) ?_
            refine c_X4_take (by omega) hl ht (fun w116 hs116 ht116 => ?_)
            have hq116 := hs116.wk (R' := [k, m]) (F' := [(l, 5)]) (by simp) (by simp)
            have hm116 := ((hs116.wk (R' := [k]) (F' := [(l, 5)]) (by simp) (by simp)).2.2.2.1 m (by simpa using Ne.symm hne.2.2.2.2)).1.trans hm
            refine g_if_ne (tgt := 126) dX4_gives_119 (by decide) (fun zc119 => ?_) (fun zc119 => ?_)
            · refine g_iconst (v := 0) dX4_gives_126 rfl ?_
              refine g_istore dX4_gives_127 (Nat.le_of_ble_eq_true rfl) rfl ?_
              refine g_goto (tgt := 248) dX4_gives_129 (by decide) ?_
              refine g_iinc dX4_gives_248 rfl rfl ?_
              refine g_goto (tgt := 56) dX4_gives_251 (by decide) ?_
              rw [nI_1']
              exact ih (i + 1) (by omega) false _ _ _ _ w116 (hw.tr hq116) hm116 ht116 (by
                rw [← hR]
                simp_all [lw_run, lw_step])
            · refine g_iconst (v := 1) dX4_gives_122 rfl ?_
              refine g_goto (tgt := 127) dX4_gives_123 (by decide) ?_
              refine g_istore dX4_gives_127 (Nat.le_of_ble_eq_true rfl) rfl ?_
              refine g_goto (tgt := 248) dX4_gives_129 (by decide) ?_
              refine g_iinc dX4_gives_248 rfl rfl ?_
              refine g_goto (tgt := 56) dX4_gives_251 (by decide) ?_
              rw [nI_1']
              exact ih (i + 1) (by omega) true _ _ _ _ w116 (hw.tr hq116) hm116 ht116 (by
                rw [← hR]
                simp_all [lw_run, lw_step])
        · refine g_aload_n dX4_gives_103 rfl ?_
          refine g_cV0i dX4_gives_104 ml_X4_29 mi_X4_take mv_X4_take hl.1 ⟨_, rfl, rfl⟩ (Nat.le_of_ble_eq_true rfl) rfl (by omega) ?_
          refine c_X4_take (by omega) hl ht (fun w104 hs104 ht104 => ?_)
          refine g_iret dX4_gives_107 rfl ⟨_, rfl, ?_⟩
          have e : st.headD 0 = R := by
            rw [← hR]
            simp_all [lw_run]
          rw [e]
          exact kk _ (hw.tr (hs104.wk (by simp) (by simp)))
set_option maxHeartbeats 4000000 in
theorem c_X4_gives {d : Nat} {w : gx_W} {l s v k m : Nat} {N : Nat} {a1 a2 a3 a4 a5 a6 : Int32} {q : Int32 → gx_W → Prop} (hd : 2 ≤ d) (h : isLw w l s v k m) (hN : w_i w l 4 = nI N) (hb : N ≤ 128) (hne : s ≠ k ∧ s ≠ m ∧ v ≠ k ∧ v ≠ m ∧ k ≠ m) (kk : ∀ w', same [k, m] [(l, 5)] w w' → q (lw_run (w_a w s) (w_a w v) (lw_nm a1 a2 a3 a4 a5 a6) N 0 false []) w') : gx_C 0 0 d mX4_gives [.ref l, .int a1, .int a2, .int a3, .int a4, .int a5, .int a6] w (Qi q) := by
  refine gx_C_of' (L := [.ref l, .int a1, .int a2, .int a3, .int a4, .int a5, .int a6, .retAddr 0, .retAddr 0, .retAddr 0, .retAddr 0, .retAddr 0]) (by decide +kernel) rfl (Nat.le_of_ble_eq_true rfl) ?_
  refine g_aload_n dX4_gives_0 rfl ?_
  refine g_getr dX4_gives_1 fl_X4_19 h.1 h.2.2.2.2.1 ?_
  refine g_iconst (v := 0) dX4_gives_4 rfl ?_
  refine g_iload_n dX4_gives_5 rfl ?_
  refine g_iast dX4_gives_6 h.2.2.2.2.2 (by first | assumption | exact vp_in_iff.mpr (by decide)) ?_
  refine g_aload_n dX4_gives_7 rfl ?_
  refine g_getr dX4_gives_8 fl_X4_19 h.1 h.2.2.2.2.1 ?_
  refine g_iconst (v := 1) dX4_gives_11 rfl ?_
  refine g_iload_n dX4_gives_12 rfl ?_
  refine g_iast dX4_gives_13 h.2.2.2.2.2 (by first | assumption | exact vp_in_iff.mpr (by decide)) ?_
  refine g_aload_n dX4_gives_14 rfl ?_
  refine g_getr dX4_gives_15 fl_X4_19 h.1 h.2.2.2.2.1 ?_
  refine g_iconst (v := 2) dX4_gives_18 rfl ?_
  refine g_iload_n dX4_gives_19 rfl ?_
  refine g_iast dX4_gives_20 h.2.2.2.2.2 (by first | assumption | exact vp_in_iff.mpr (by decide)) ?_
  refine g_aload_n dX4_gives_21 rfl ?_
  refine g_getr dX4_gives_22 fl_X4_19 h.1 h.2.2.2.2.1 ?_
  refine g_iconst (v := 3) dX4_gives_25 rfl ?_
  refine g_iload dX4_gives_26 rfl ?_
  refine g_iast dX4_gives_28 h.2.2.2.2.2 (by first | assumption | exact vp_in_iff.mpr (by decide)) ?_
  refine g_aload_n dX4_gives_29 rfl ?_
  refine g_getr dX4_gives_30 fl_X4_19 h.1 h.2.2.2.2.1 ?_
  refine g_iconst (v := 4) dX4_gives_33 rfl ?_
  refine g_iload dX4_gives_34 rfl ?_
  refine g_iast dX4_gives_36 h.2.2.2.2.2 (by first | assumption | exact vp_in_iff.mpr (by decide)) ?_
  refine g_aload_n dX4_gives_37 rfl ?_
  refine g_getr dX4_gives_38 fl_X4_19 h.1 h.2.2.2.2.1 ?_
  refine g_iconst (v := 5) dX4_gives_41 rfl ?_
  refine g_iload dX4_gives_42 rfl ?_
  refine g_iast dX4_gives_44 h.2.2.2.2.2 (by first | assumption | exact vp_in_iff.mpr (by decide)) ?_
  refine g_aload_n dX4_gives_45 rfl ?_
  refine g_iconst (v := 0) dX4_gives_46 rfl ?_
  refine g_puti dX4_gives_47 fl_X4_26 ft_4_5 h.1 ?_
  refine g_iconst (v := 0) dX4_gives_50 rfl ?_
  refine g_istore dX4_gives_51 (Nat.le_of_ble_eq_true rfl) rfl ?_
  refine g_iconst (v := 0) dX4_gives_53 rfl ?_
  refine g_istore dX4_gives_54 (Nat.le_of_ble_eq_true rfl) rfl ?_
  refine l_X4_gives hd h hN hb hne kk N 0 (by omega) false _ _ _ [] _ ?_ rfl ?_ (lw_run_nm (fun j hj => ?_) N 0 false [])
  · refine same.si ?_ (by simp)
    refine same.sa (same.sa (same.sa (same.sa (same.sa (same.sa same.rf ?_) ?_) ?_) ?_) ?_) ?_ <;> simp
  · refine ⟨by rw [wi_si, if_pos ⟨rfl, rfl⟩]; rfl, by decide, fun i hi => by simp at hi⟩
  · rw [wa_si]
    simp only [wa_sa, if_true, up_at, lw_nm]
    match j, hj with
    | 0, _ => rfl
    | 1, _ => rfl
    | 2, _ => rfl
    | 3, _ => rfl
    | 4, _ => rfl
    | 5, _ => rfl
    | n + 6, hj => exact absurd hj (by omega)
