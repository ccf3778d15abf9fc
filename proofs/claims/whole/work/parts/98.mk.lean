/-! the constructors: the world after them -/
theorem dX3_init_0 : gx_d mX3_init 0 (.aload_n 0) 1 := gx_dk (by decide +kernel)
theorem dX3_init_1 : gx_d mX3_init 1 (.invokespecial 3) 3 := gx_dk (by decide +kernel)
theorem dX3_init_4 : gx_d mX3_init 4 (.aload_n 0) 1 := gx_dk (by decide +kernel)
theorem dX3_init_5 : gx_d mX3_init 5 (.bipush 6) 2 := gx_dk (by decide +kernel)
theorem dX3_init_7 : gx_d mX3_init 7 (.newarray .int) 2 := gx_dk (by decide +kernel)
theorem dX3_init_9 : gx_d mX3_init 9 (.putfield 9) 3 := gx_dk (by decide +kernel)
theorem dX3_init_12 : gx_d mX3_init 12 (.aload_n 0) 1 := gx_dk (by decide +kernel)
theorem dX3_init_13 : gx_d mX3_init 13 (.iconst 5) 1 := gx_dk (by decide +kernel)
theorem dX3_init_14 : gx_d mX3_init 14 (.newarray .int) 2 := gx_dk (by decide +kernel)
theorem dX3_init_16 : gx_d mX3_init 16 (.putfield 15) 3 := gx_dk (by decide +kernel)
theorem dX3_init_19 : gx_d mX3_init 19 (.return_) 1 := gx_dk (by decide +kernel)
theorem dX9_init_0 : gx_d mX9_init 0 (.aload_n 0) 1 := gx_dk (by decide +kernel)
theorem dX9_init_1 : gx_d mX9_init 1 (.invokespecial 1) 3 := gx_dk (by decide +kernel)
theorem dX9_init_4 : gx_d mX9_init 4 (.aload_n 0) 1 := gx_dk (by decide +kernel)
theorem dX9_init_5 : gx_d mX9_init 5 (.new 7) 3 := gx_dk (by decide +kernel)
theorem dX9_init_8 : gx_d mX9_init 8 (.dup) 1 := gx_dk (by decide +kernel)
theorem dX9_init_9 : gx_d mX9_init 9 (.invokespecial 9) 3 := gx_dk (by decide +kernel)
theorem dX9_init_12 : gx_d mX9_init 12 (.putfield 10) 3 := gx_dk (by decide +kernel)
theorem dX9_init_15 : gx_d mX9_init 15 (.aload_n 0) 1 := gx_dk (by decide +kernel)
theorem dX9_init_16 : gx_d mX9_init 16 (.new 16) 3 := gx_dk (by decide +kernel)
theorem dX9_init_19 : gx_d mX9_init 19 (.dup) 1 := gx_dk (by decide +kernel)
theorem dX9_init_20 : gx_d mX9_init 20 (.invokespecial 18) 3 := gx_dk (by decide +kernel)
theorem dX9_init_23 : gx_d mX9_init 23 (.putfield 19) 3 := gx_dk (by decide +kernel)
theorem dX9_init_26 : gx_d mX9_init 26 (.aload_n 0) 1 := gx_dk (by decide +kernel)
theorem dX9_init_27 : gx_d mX9_init 27 (.new 23) 3 := gx_dk (by decide +kernel)
theorem dX9_init_30 : gx_d mX9_init 30 (.dup) 1 := gx_dk (by decide +kernel)
theorem dX9_init_31 : gx_d mX9_init 31 (.invokespecial 25) 3 := gx_dk (by decide +kernel)
theorem dX9_init_34 : gx_d mX9_init 34 (.putfield 26) 3 := gx_dk (by decide +kernel)
theorem dX9_init_37 : gx_d mX9_init 37 (.aload_n 0) 1 := gx_dk (by decide +kernel)
theorem dX9_init_38 : gx_d mX9_init 38 (.new 30) 3 := gx_dk (by decide +kernel)
theorem dX9_init_41 : gx_d mX9_init 41 (.dup) 1 := gx_dk (by decide +kernel)
theorem dX9_init_42 : gx_d mX9_init 42 (.invokespecial 32) 3 := gx_dk (by decide +kernel)
theorem dX9_init_45 : gx_d mX9_init 45 (.putfield 33) 3 := gx_dk (by decide +kernel)
theorem dX9_init_48 : gx_d mX9_init 48 (.aload_n 0) 1 := gx_dk (by decide +kernel)
theorem dX9_init_49 : gx_d mX9_init 49 (.bipush 6) 2 := gx_dk (by decide +kernel)
theorem dX9_init_51 : gx_d mX9_init 51 (.anewarray 37) 3 := gx_dk (by decide +kernel)
theorem dX9_init_54 : gx_d mX9_init 54 (.putfield 39) 3 := gx_dk (by decide +kernel)
theorem dX9_init_57 : gx_d mX9_init 57 (.aload_n 0) 1 := gx_dk (by decide +kernel)
theorem dX9_init_58 : gx_d mX9_init 58 (.iconst 5) 1 := gx_dk (by decide +kernel)
theorem dX9_init_59 : gx_d mX9_init 59 (.newarray .int) 2 := gx_dk (by decide +kernel)
theorem dX9_init_61 : gx_d mX9_init 61 (.putfield 43) 3 := gx_dk (by decide +kernel)
theorem dX9_init_64 : gx_d mX9_init 64 (.aload_n 0) 1 := gx_dk (by decide +kernel)
theorem dX9_init_65 : gx_d mX9_init 65 (.iconst 3) 1 := gx_dk (by decide +kernel)
theorem dX9_init_66 : gx_d mX9_init 66 (.newarray .int) 2 := gx_dk (by decide +kernel)
theorem dX9_init_68 : gx_d mX9_init 68 (.putfield 47) 3 := gx_dk (by decide +kernel)
theorem dX9_init_71 : gx_d mX9_init 71 (.aload_n 0) 1 := gx_dk (by decide +kernel)
theorem dX9_init_72 : gx_d mX9_init 72 (.iconst 3) 1 := gx_dk (by decide +kernel)
theorem dX9_init_73 : gx_d mX9_init 73 (.bipush 6) 2 := gx_dk (by decide +kernel)
theorem dX9_init_75 : gx_d mX9_init 75 (.multianewarray 50 2) 4 := gx_dk (by decide +kernel)
theorem dX9_init_79 : gx_d mX9_init 79 (.putfield 52) 3 := gx_dk (by decide +kernel)
theorem dX9_init_82 : gx_d mX9_init 82 (.aload_n 0) 1 := gx_dk (by decide +kernel)
theorem dX9_init_83 : gx_d mX9_init 83 (.new 55) 3 := gx_dk (by decide +kernel)
theorem dX9_init_86 : gx_d mX9_init 86 (.dup) 1 := gx_dk (by decide +kernel)
theorem dX9_init_87 : gx_d mX9_init 87 (.invokespecial 57) 3 := gx_dk (by decide +kernel)
theorem dX9_init_90 : gx_d mX9_init 90 (.putfield 58) 3 := gx_dk (by decide +kernel)
theorem dX9_init_93 : gx_d mX9_init 93 (.new 55) 3 := gx_dk (by decide +kernel)
theorem dX9_init_96 : gx_d mX9_init 96 (.dup) 1 := gx_dk (by decide +kernel)
theorem dX9_init_97 : gx_d mX9_init 97 (.invokespecial 57) 3 := gx_dk (by decide +kernel)
theorem dX9_init_100 : gx_d mX9_init 100 (.astore_n 1) 1 := gx_dk (by decide +kernel)
theorem dX9_init_101 : gx_d mX9_init 101 (.aload_n 0) 1 := gx_dk (by decide +kernel)
theorem dX9_init_102 : gx_d mX9_init 102 (.new 62) 3 := gx_dk (by decide +kernel)
theorem dX9_init_105 : gx_d mX9_init 105 (.dup) 1 := gx_dk (by decide +kernel)
theorem dX9_init_106 : gx_d mX9_init 106 (.aload_n 1) 1 := gx_dk (by decide +kernel)
theorem dX9_init_107 : gx_d mX9_init 107 (.invokespecial 64) 3 := gx_dk (by decide +kernel)
theorem dX9_init_110 : gx_d mX9_init 110 (.putfield 67) 3 := gx_dk (by decide +kernel)
theorem dX9_init_113 : gx_d mX9_init 113 (.aload_n 0) 1 := gx_dk (by decide +kernel)
theorem dX9_init_114 : gx_d mX9_init 114 (.new 71) 3 := gx_dk (by decide +kernel)
theorem dX9_init_117 : gx_d mX9_init 117 (.dup) 1 := gx_dk (by decide +kernel)
theorem dX9_init_118 : gx_d mX9_init 118 (.aload_n 1) 1 := gx_dk (by decide +kernel)
theorem dX9_init_119 : gx_d mX9_init 119 (.invokespecial 73) 3 := gx_dk (by decide +kernel)
theorem dX9_init_122 : gx_d mX9_init 122 (.putfield 74) 3 := gx_dk (by decide +kernel)
theorem dX9_init_125 : gx_d mX9_init 125 (.aload_n 0) 1 := gx_dk (by decide +kernel)
theorem dX9_init_126 : gx_d mX9_init 126 (.getfield 43) 3 := gx_dk (by decide +kernel)
theorem dX9_init_129 : gx_d mX9_init 129 (.iconst 4) 1 := gx_dk (by decide +kernel)
theorem dX9_init_130 : gx_d mX9_init 130 (.bipush (-2)) 2 := gx_dk (by decide +kernel)
theorem dX9_init_132 : gx_d mX9_init 132 (.iastore) 1 := gx_dk (by decide +kernel)
theorem dX9_init_133 : gx_d mX9_init 133 (.iconst 0) 1 := gx_dk (by decide +kernel)
theorem dX9_init_134 : gx_d mX9_init 134 (.istore_n 2) 1 := gx_dk (by decide +kernel)
theorem dX9_init_135 : gx_d mX9_init 135 (.iload_n 2) 1 := gx_dk (by decide +kernel)
theorem dX9_init_136 : gx_d mX9_init 136 (.bipush 6) 2 := gx_dk (by decide +kernel)
theorem dX9_init_138 : gx_d mX9_init 138 (.if_icmp .ge 22) 3 := gx_dk (by decide +kernel)
theorem dX9_init_141 : gx_d mX9_init 141 (.aload_n 0) 1 := gx_dk (by decide +kernel)
theorem dX9_init_142 : gx_d mX9_init 142 (.getfield 39) 3 := gx_dk (by decide +kernel)
theorem dX9_init_145 : gx_d mX9_init 145 (.iload_n 2) 1 := gx_dk (by decide +kernel)
theorem dX9_init_146 : gx_d mX9_init 146 (.new 37) 3 := gx_dk (by decide +kernel)
theorem dX9_init_149 : gx_d mX9_init 149 (.dup) 1 := gx_dk (by decide +kernel)
theorem dX9_init_150 : gx_d mX9_init 150 (.invokespecial 78) 3 := gx_dk (by decide +kernel)
theorem dX9_init_153 : gx_d mX9_init 153 (.aastore) 1 := gx_dk (by decide +kernel)
theorem dX9_init_154 : gx_d mX9_init 154 (.iinc 2 1) 3 := gx_dk (by decide +kernel)
theorem dX9_init_157 : gx_d mX9_init 157 (.goto (-22)) 3 := gx_dk (by decide +kernel)
theorem dX9_init_160 : gx_d mX9_init 160 (.return_) 1 := gx_dk (by decide +kernel)
theorem dX10_init_0 : gx_d mX10_init 0 (.aload_n 0) 1 := gx_dk (by decide +kernel)
theorem dX10_init_1 : gx_d mX10_init 1 (.invokespecial 3) 3 := gx_dk (by decide +kernel)
theorem dX10_init_4 : gx_d mX10_init 4 (.aload_n 0) 1 := gx_dk (by decide +kernel)
theorem dX10_init_5 : gx_d mX10_init 5 (.bipush 6) 2 := gx_dk (by decide +kernel)
theorem dX10_init_7 : gx_d mX10_init 7 (.newarray .int) 2 := gx_dk (by decide +kernel)
theorem dX10_init_9 : gx_d mX10_init 9 (.putfield 9) 3 := gx_dk (by decide +kernel)
theorem dX10_init_12 : gx_d mX10_init 12 (.aload_n 0) 1 := gx_dk (by decide +kernel)
theorem dX10_init_13 : gx_d mX10_init 13 (.bipush 6) 2 := gx_dk (by decide +kernel)
theorem dX10_init_15 : gx_d mX10_init 15 (.newarray .int) 2 := gx_dk (by decide +kernel)
theorem dX10_init_17 : gx_d mX10_init 17 (.putfield 15) 3 := gx_dk (by decide +kernel)
theorem dX10_init_20 : gx_d mX10_init 20 (.aload_n 0) 1 := gx_dk (by decide +kernel)
theorem dX10_init_21 : gx_d mX10_init 21 (.bipush 6) 2 := gx_dk (by decide +kernel)
theorem dX10_init_23 : gx_d mX10_init 23 (.newarray .int) 2 := gx_dk (by decide +kernel)
theorem dX10_init_25 : gx_d mX10_init 25 (.putfield 18) 3 := gx_dk (by decide +kernel)
theorem dX10_init_28 : gx_d mX10_init 28 (.aload_n 0) 1 := gx_dk (by decide +kernel)
theorem dX10_init_29 : gx_d mX10_init 29 (.bipush 6) 2 := gx_dk (by decide +kernel)
theorem dX10_init_31 : gx_d mX10_init 31 (.newarray .int) 2 := gx_dk (by decide +kernel)
theorem dX10_init_33 : gx_d mX10_init 33 (.putfield 21) 3 := gx_dk (by decide +kernel)
theorem dX10_init_36 : gx_d mX10_init 36 (.aload_n 0) 1 := gx_dk (by decide +kernel)
theorem dX10_init_37 : gx_d mX10_init 37 (.iconst 4) 1 := gx_dk (by decide +kernel)
theorem dX10_init_38 : gx_d mX10_init 38 (.newarray .int) 2 := gx_dk (by decide +kernel)
theorem dX10_init_40 : gx_d mX10_init 40 (.dup) 1 := gx_dk (by decide +kernel)
theorem dX10_init_41 : gx_d mX10_init 41 (.iconst 0) 1 := gx_dk (by decide +kernel)
theorem dX10_init_42 : gx_d mX10_init 42 (.bipush 8) 2 := gx_dk (by decide +kernel)
theorem dX10_init_44 : gx_d mX10_init 44 (.iastore) 1 := gx_dk (by decide +kernel)
theorem dX10_init_45 : gx_d mX10_init 45 (.dup) 1 := gx_dk (by decide +kernel)
theorem dX10_init_46 : gx_d mX10_init 46 (.iconst 1) 1 := gx_dk (by decide +kernel)
theorem dX10_init_47 : gx_d mX10_init 47 (.iconst 0) 1 := gx_dk (by decide +kernel)
theorem dX10_init_48 : gx_d mX10_init 48 (.iastore) 1 := gx_dk (by decide +kernel)
theorem dX10_init_49 : gx_d mX10_init 49 (.dup) 1 := gx_dk (by decide +kernel)
theorem dX10_init_50 : gx_d mX10_init 50 (.iconst 2) 1 := gx_dk (by decide +kernel)
theorem dX10_init_51 : gx_d mX10_init 51 (.iconst 2) 1 := gx_dk (by decide +kernel)
theorem dX10_init_52 : gx_d mX10_init 52 (.iastore) 1 := gx_dk (by decide +kernel)
theorem dX10_init_53 : gx_d mX10_init 53 (.dup) 1 := gx_dk (by decide +kernel)
theorem dX10_init_54 : gx_d mX10_init 54 (.iconst 3) 1 := gx_dk (by decide +kernel)
theorem dX10_init_55 : gx_d mX10_init 55 (.iconst 4) 1 := gx_dk (by decide +kernel)
theorem dX10_init_56 : gx_d mX10_init 56 (.iastore) 1 := gx_dk (by decide +kernel)
theorem dX10_init_57 : gx_d mX10_init 57 (.putfield 24) 3 := gx_dk (by decide +kernel)
theorem dX10_init_60 : gx_d mX10_init 60 (.aload_n 0) 1 := gx_dk (by decide +kernel)
theorem dX10_init_61 : gx_d mX10_init 61 (.bipush 40) 2 := gx_dk (by decide +kernel)
theorem dX10_init_63 : gx_d mX10_init 63 (.newarray .int) 2 := gx_dk (by decide +kernel)
theorem dX10_init_65 : gx_d mX10_init 65 (.putfield 27) 3 := gx_dk (by decide +kernel)
theorem dX10_init_68 : gx_d mX10_init 68 (.aload_n 0) 1 := gx_dk (by decide +kernel)
theorem dX10_init_69 : gx_d mX10_init 69 (.bipush 40) 2 := gx_dk (by decide +kernel)
theorem dX10_init_71 : gx_d mX10_init 71 (.newarray .int) 2 := gx_dk (by decide +kernel)
theorem dX10_init_73 : gx_d mX10_init 73 (.putfield 30) 3 := gx_dk (by decide +kernel)
theorem dX10_init_76 : gx_d mX10_init 76 (.aload_n 0) 1 := gx_dk (by decide +kernel)
theorem dX10_init_77 : gx_d mX10_init 77 (.bipush 40) 2 := gx_dk (by decide +kernel)
theorem dX10_init_79 : gx_d mX10_init 79 (.newarray .int) 2 := gx_dk (by decide +kernel)
theorem dX10_init_81 : gx_d mX10_init 81 (.putfield 33) 3 := gx_dk (by decide +kernel)
theorem dX10_init_84 : gx_d mX10_init 84 (.aload_n 0) 1 := gx_dk (by decide +kernel)
theorem dX10_init_85 : gx_d mX10_init 85 (.bipush 40) 2 := gx_dk (by decide +kernel)
theorem dX10_init_87 : gx_d mX10_init 87 (.newarray .int) 2 := gx_dk (by decide +kernel)
theorem dX10_init_89 : gx_d mX10_init 89 (.putfield 36) 3 := gx_dk (by decide +kernel)
theorem dX10_init_92 : gx_d mX10_init 92 (.aload_n 0) 1 := gx_dk (by decide +kernel)
theorem dX10_init_93 : gx_d mX10_init 93 (.bipush 120) 2 := gx_dk (by decide +kernel)
theorem dX10_init_95 : gx_d mX10_init 95 (.newarray .byte) 2 := gx_dk (by decide +kernel)
theorem dX10_init_97 : gx_d mX10_init 97 (.putfield 39) 3 := gx_dk (by decide +kernel)
theorem dX10_init_100 : gx_d mX10_init 100 (.aload_n 0) 1 := gx_dk (by decide +kernel)
theorem dX10_init_101 : gx_d mX10_init 101 (.sipush 260) 3 := gx_dk (by decide +kernel)
theorem dX10_init_104 : gx_d mX10_init 104 (.newarray .byte) 2 := gx_dk (by decide +kernel)
theorem dX10_init_106 : gx_d mX10_init 106 (.putfield 43) 3 := gx_dk (by decide +kernel)
theorem dX10_init_109 : gx_d mX10_init 109 (.aload_n 0) 1 := gx_dk (by decide +kernel)
theorem dX10_init_110 : gx_d mX10_init 110 (.sipush 260) 3 := gx_dk (by decide +kernel)
theorem dX10_init_113 : gx_d mX10_init 113 (.newarray .int) 2 := gx_dk (by decide +kernel)
theorem dX10_init_115 : gx_d mX10_init 115 (.putfield 46) 3 := gx_dk (by decide +kernel)
theorem dX10_init_118 : gx_d mX10_init 118 (.aload_n 0) 1 := gx_dk (by decide +kernel)
theorem dX10_init_119 : gx_d mX10_init 119 (.iconst 2) 1 := gx_dk (by decide +kernel)
theorem dX10_init_120 : gx_d mX10_init 120 (.newarray .int) 2 := gx_dk (by decide +kernel)
theorem dX10_init_122 : gx_d mX10_init 122 (.putfield 49) 3 := gx_dk (by decide +kernel)
theorem dX10_init_125 : gx_d mX10_init 125 (.aload_n 0) 1 := gx_dk (by decide +kernel)
theorem dX10_init_126 : gx_d mX10_init 126 (.bipush 122) 2 := gx_dk (by decide +kernel)
theorem dX10_init_128 : gx_d mX10_init 128 (.newarray .short) 2 := gx_dk (by decide +kernel)
theorem dX10_init_130 : gx_d mX10_init 130 (.putfield 52) 3 := gx_dk (by decide +kernel)
theorem dX10_init_133 : gx_d mX10_init 133 (.aload_n 0) 1 := gx_dk (by decide +kernel)
theorem dX10_init_134 : gx_d mX10_init 134 (.bipush 122) 2 := gx_dk (by decide +kernel)
theorem dX10_init_136 : gx_d mX10_init 136 (.newarray .short) 2 := gx_dk (by decide +kernel)
theorem dX10_init_138 : gx_d mX10_init 138 (.putfield 56) 3 := gx_dk (by decide +kernel)
theorem dX10_init_141 : gx_d mX10_init 141 (.aload_n 0) 1 := gx_dk (by decide +kernel)
theorem dX10_init_142 : gx_d mX10_init 142 (.bipush 6) 2 := gx_dk (by decide +kernel)
theorem dX10_init_144 : gx_d mX10_init 144 (.newarray .int) 2 := gx_dk (by decide +kernel)
theorem dX10_init_146 : gx_d mX10_init 146 (.putfield 59) 3 := gx_dk (by decide +kernel)
theorem dX10_init_149 : gx_d mX10_init 149 (.aload_n 0) 1 := gx_dk (by decide +kernel)
theorem dX10_init_150 : gx_d mX10_init 150 (.sipush 130) 3 := gx_dk (by decide +kernel)
theorem dX10_init_153 : gx_d mX10_init 153 (.newarray .int) 2 := gx_dk (by decide +kernel)
theorem dX10_init_155 : gx_d mX10_init 155 (.putfield 62) 3 := gx_dk (by decide +kernel)
theorem dX10_init_158 : gx_d mX10_init 158 (.aload_n 0) 1 := gx_dk (by decide +kernel)
theorem dX10_init_159 : gx_d mX10_init 159 (.bipush 6) 2 := gx_dk (by decide +kernel)
theorem dX10_init_161 : gx_d mX10_init 161 (.newarray .int) 2 := gx_dk (by decide +kernel)
theorem dX10_init_163 : gx_d mX10_init 163 (.putfield 65) 3 := gx_dk (by decide +kernel)
theorem dX10_init_166 : gx_d mX10_init 166 (.aload_n 0) 1 := gx_dk (by decide +kernel)
theorem dX10_init_167 : gx_d mX10_init 167 (.bipush 6) 2 := gx_dk (by decide +kernel)
theorem dX10_init_169 : gx_d mX10_init 169 (.newarray .int) 2 := gx_dk (by decide +kernel)
theorem dX10_init_171 : gx_d mX10_init 171 (.putfield 68) 3 := gx_dk (by decide +kernel)
theorem dX10_init_174 : gx_d mX10_init 174 (.aload_n 0) 1 := gx_dk (by decide +kernel)
theorem dX10_init_175 : gx_d mX10_init 175 (.bipush 6) 2 := gx_dk (by decide +kernel)
theorem dX10_init_177 : gx_d mX10_init 177 (.newarray .int) 2 := gx_dk (by decide +kernel)
theorem dX10_init_179 : gx_d mX10_init 179 (.putfield 71) 3 := gx_dk (by decide +kernel)
theorem dX10_init_182 : gx_d mX10_init 182 (.aload_n 0) 1 := gx_dk (by decide +kernel)
theorem dX10_init_183 : gx_d mX10_init 183 (.bipush 6) 2 := gx_dk (by decide +kernel)
theorem dX10_init_185 : gx_d mX10_init 185 (.newarray .int) 2 := gx_dk (by decide +kernel)
theorem dX10_init_187 : gx_d mX10_init 187 (.putfield 74) 3 := gx_dk (by decide +kernel)
theorem dX10_init_190 : gx_d mX10_init 190 (.aload_n 0) 1 := gx_dk (by decide +kernel)
theorem dX10_init_191 : gx_d mX10_init 191 (.bipush 24) 2 := gx_dk (by decide +kernel)
theorem dX10_init_193 : gx_d mX10_init 193 (.newarray .int) 2 := gx_dk (by decide +kernel)
theorem dX10_init_195 : gx_d mX10_init 195 (.putfield 77) 3 := gx_dk (by decide +kernel)
theorem dX10_init_198 : gx_d mX10_init 198 (.aload_n 0) 1 := gx_dk (by decide +kernel)
theorem dX10_init_199 : gx_d mX10_init 199 (.iconst 3) 1 := gx_dk (by decide +kernel)
theorem dX10_init_200 : gx_d mX10_init 200 (.newarray .int) 2 := gx_dk (by decide +kernel)
theorem dX10_init_202 : gx_d mX10_init 202 (.putfield 80) 3 := gx_dk (by decide +kernel)
theorem dX10_init_205 : gx_d mX10_init 205 (.aload_n 0) 1 := gx_dk (by decide +kernel)
theorem dX10_init_206 : gx_d mX10_init 206 (.bipush 6) 2 := gx_dk (by decide +kernel)
theorem dX10_init_208 : gx_d mX10_init 208 (.newarray .int) 2 := gx_dk (by decide +kernel)
theorem dX10_init_210 : gx_d mX10_init 210 (.putfield 83) 3 := gx_dk (by decide +kernel)
theorem dX10_init_213 : gx_d mX10_init 213 (.aload_n 0) 1 := gx_dk (by decide +kernel)
theorem dX10_init_214 : gx_d mX10_init 214 (.iconst 4) 1 := gx_dk (by decide +kernel)
theorem dX10_init_215 : gx_d mX10_init 215 (.newarray .int) 2 := gx_dk (by decide +kernel)
theorem dX10_init_217 : gx_d mX10_init 217 (.putfield 86) 3 := gx_dk (by decide +kernel)
theorem dX10_init_220 : gx_d mX10_init 220 (.aload_n 0) 1 := gx_dk (by decide +kernel)
theorem dX10_init_221 : gx_d mX10_init 221 (.bipush (-2)) 2 := gx_dk (by decide +kernel)
theorem dX10_init_223 : gx_d mX10_init 223 (.putfield 89) 3 := gx_dk (by decide +kernel)
theorem dX10_init_226 : gx_d mX10_init 226 (.aload_n 0) 1 := gx_dk (by decide +kernel)
theorem dX10_init_227 : gx_d mX10_init 227 (.bipush 6) 2 := gx_dk (by decide +kernel)
theorem dX10_init_229 : gx_d mX10_init 229 (.newarray .int) 2 := gx_dk (by decide +kernel)
theorem dX10_init_231 : gx_d mX10_init 231 (.putfield 93) 3 := gx_dk (by decide +kernel)
theorem dX10_init_234 : gx_d mX10_init 234 (.aload_n 0) 1 := gx_dk (by decide +kernel)
theorem dX10_init_235 : gx_d mX10_init 235 (.iconst 4) 1 := gx_dk (by decide +kernel)
theorem dX10_init_236 : gx_d mX10_init 236 (.newarray .int) 2 := gx_dk (by decide +kernel)
theorem dX10_init_238 : gx_d mX10_init 238 (.putfield 96) 3 := gx_dk (by decide +kernel)
theorem dX10_init_241 : gx_d mX10_init 241 (.aload_n 0) 1 := gx_dk (by decide +kernel)
theorem dX10_init_242 : gx_d mX10_init 242 (.bipush 50) 2 := gx_dk (by decide +kernel)
theorem dX10_init_244 : gx_d mX10_init 244 (.newarray .int) 2 := gx_dk (by decide +kernel)
theorem dX10_init_246 : gx_d mX10_init 246 (.putfield 99) 3 := gx_dk (by decide +kernel)
theorem dX10_init_249 : gx_d mX10_init 249 (.aload_n 0) 1 := gx_dk (by decide +kernel)
theorem dX10_init_250 : gx_d mX10_init 250 (.bipush 24) 2 := gx_dk (by decide +kernel)
theorem dX10_init_252 : gx_d mX10_init 252 (.newarray .int) 2 := gx_dk (by decide +kernel)
theorem dX10_init_254 : gx_d mX10_init 254 (.putfield 102) 3 := gx_dk (by decide +kernel)
theorem dX10_init_257 : gx_d mX10_init 257 (.aload_n 0) 1 := gx_dk (by decide +kernel)
theorem dX10_init_258 : gx_d mX10_init 258 (.bipush 6) 2 := gx_dk (by decide +kernel)
theorem dX10_init_260 : gx_d mX10_init 260 (.newarray .int) 2 := gx_dk (by decide +kernel)
theorem dX10_init_262 : gx_d mX10_init 262 (.dup) 1 := gx_dk (by decide +kernel)
theorem dX10_init_263 : gx_d mX10_init 263 (.iconst 0) 1 := gx_dk (by decide +kernel)
theorem dX10_init_264 : gx_d mX10_init 264 (.iconst (-1)) 1 := gx_dk (by decide +kernel)
theorem dX10_init_265 : gx_d mX10_init 265 (.iastore) 1 := gx_dk (by decide +kernel)
theorem dX10_init_266 : gx_d mX10_init 266 (.dup) 1 := gx_dk (by decide +kernel)
theorem dX10_init_267 : gx_d mX10_init 267 (.iconst 1) 1 := gx_dk (by decide +kernel)
theorem dX10_init_268 : gx_d mX10_init 268 (.iconst (-1)) 1 := gx_dk (by decide +kernel)
theorem dX10_init_269 : gx_d mX10_init 269 (.iastore) 1 := gx_dk (by decide +kernel)
theorem dX10_init_270 : gx_d mX10_init 270 (.dup) 1 := gx_dk (by decide +kernel)
theorem dX10_init_271 : gx_d mX10_init 271 (.iconst 2) 1 := gx_dk (by decide +kernel)
theorem dX10_init_272 : gx_d mX10_init 272 (.iconst (-1)) 1 := gx_dk (by decide +kernel)
theorem dX10_init_273 : gx_d mX10_init 273 (.iastore) 1 := gx_dk (by decide +kernel)
theorem dX10_init_274 : gx_d mX10_init 274 (.dup) 1 := gx_dk (by decide +kernel)
theorem dX10_init_275 : gx_d mX10_init 275 (.iconst 3) 1 := gx_dk (by decide +kernel)
theorem dX10_init_276 : gx_d mX10_init 276 (.iconst (-1)) 1 := gx_dk (by decide +kernel)
theorem dX10_init_277 : gx_d mX10_init 277 (.iastore) 1 := gx_dk (by decide +kernel)
theorem dX10_init_278 : gx_d mX10_init 278 (.dup) 1 := gx_dk (by decide +kernel)
theorem dX10_init_279 : gx_d mX10_init 279 (.iconst 4) 1 := gx_dk (by decide +kernel)
theorem dX10_init_280 : gx_d mX10_init 280 (.iconst (-1)) 1 := gx_dk (by decide +kernel)
theorem dX10_init_281 : gx_d mX10_init 281 (.iastore) 1 := gx_dk (by decide +kernel)
theorem dX10_init_282 : gx_d mX10_init 282 (.dup) 1 := gx_dk (by decide +kernel)
theorem dX10_init_283 : gx_d mX10_init 283 (.iconst 5) 1 := gx_dk (by decide +kernel)
theorem dX10_init_284 : gx_d mX10_init 284 (.iconst (-1)) 1 := gx_dk (by decide +kernel)
theorem dX10_init_285 : gx_d mX10_init 285 (.iastore) 1 := gx_dk (by decide +kernel)
theorem dX10_init_286 : gx_d mX10_init 286 (.putfield 105) 3 := gx_dk (by decide +kernel)
theorem dX10_init_289 : gx_d mX10_init 289 (.aload_n 0) 1 := gx_dk (by decide +kernel)
theorem dX10_init_290 : gx_d mX10_init 290 (.bipush 6) 2 := gx_dk (by decide +kernel)
theorem dX10_init_292 : gx_d mX10_init 292 (.newarray .int) 2 := gx_dk (by decide +kernel)
theorem dX10_init_294 : gx_d mX10_init 294 (.putfield 108) 3 := gx_dk (by decide +kernel)
theorem dX10_init_297 : gx_d mX10_init 297 (.aload_n 0) 1 := gx_dk (by decide +kernel)
theorem dX10_init_298 : gx_d mX10_init 298 (.sipush 360) 3 := gx_dk (by decide +kernel)
theorem dX10_init_301 : gx_d mX10_init 301 (.newarray .long) 2 := gx_dk (by decide +kernel)
theorem dX10_init_303 : gx_d mX10_init 303 (.putfield 111) 3 := gx_dk (by decide +kernel)
theorem dX10_init_306 : gx_d mX10_init 306 (.aload_n 0) 1 := gx_dk (by decide +kernel)
theorem dX10_init_307 : gx_d mX10_init 307 (.bipush 60) 2 := gx_dk (by decide +kernel)
theorem dX10_init_309 : gx_d mX10_init 309 (.newarray .long) 2 := gx_dk (by decide +kernel)
theorem dX10_init_311 : gx_d mX10_init 311 (.putfield 115) 3 := gx_dk (by decide +kernel)
theorem dX10_init_314 : gx_d mX10_init 314 (.return_) 1 := gx_dk (by decide +kernel)
def a_n (w : gx_W) (n : Nat) (c : Nat × Nat) : gx_W := (w.1 ++ [c], va_up w.2.1 n (fun _ => 0), va_up w.2.2.1 n (fun _ => none), va_up w.2.2.2.1 n (fun _ => 0), va_up w.2.2.2.2.1 n (fun _ => 0), va_up w.2.2.2.2.2 n (fun _ => none))
theorem a_n_eq {w : gx_W} {n : Nat} {c : Nat × Nat} (h : w.1.length = n) : a_new w c = a_n w n c := by subst h; rfl
def klW : List (Nat × Nat) := [(30, 8), (30, 8), (30, 7), (30, 8), (30, 32), (9, 0), (6, 0), (20, 120), (1, 0), (20, 40), (20, 40), (20, 40), (20, 40), (3, 0), (20, 6), (20, 5), (0, 0), (20, 50), (20, 24), (24, 6), (20, 5), (20, 3), (25, 3), (20, 6), (20, 6), (20, 6), (4, 0), (20, 128), (20, 128), (20, 64), (20, 6), (4, 0), (20, 128), (20, 128), (20, 64), (20, 6), (2, 0), (20, 28), (7, 0), (20, 6), (20, 6), (20, 6), (2, 0), (20, 28), (5, 0), (23, 60), (5, 0), (23, 60), (5, 0), (23, 60), (5, 0), (23, 60), (5, 0), (23, 60), (5, 0), (23, 60), (10, 0), (20, 6), (20, 6), (20, 6), (20, 6), (20, 4), (20, 40), (20, 40), (20, 40), (20, 40), (21, 120), (21, 260), (20, 260), (20, 2), (22, 122), (22, 122), (20, 6), (20, 130), (20, 6), (20, 6), (20, 6), (20, 6), (20, 24), (20, 3), (20, 6), (20, 4), (20, 6), (20, 4), (20, 50), (20, 24), (20, 6), (20, 6), (23, 360), (23, 60)]
theorem y_at {w : gx_W} {Ls k r : Nat} {c : Nat × Nat} (h : w.1 = (30, Ls) :: klW.take k) (e : (klW.take k)[r]? = some c) : w.1[r + 1]? = some c := by rw [h]; exact e
theorem y_len {w : gx_W} {Ls k : Nat} (h : w.1 = (30, Ls) :: klW.take k) (e : k ≤ 90) : w.1.length = k + 1 := by
  rw [h, List.length_cons, List.length_take, show klW.length = 90 from rfl]
  omega
theorem y_s_r {w w' : gx_W} {X : List (Nat × Nat)} {k j : Nat} {v : Option Nat} (h : w.1 = X) (e : w' = s_r w k j v) : w'.1 = X := by subst e; exact h
theorem y_s_i {w w' : gx_W} {X : List (Nat × Nat)} {k j : Nat} {v : Int32} (h : w.1 = X) (e : w' = s_i w k j v) : w'.1 = X := by subst e; exact h
theorem y_s_a {w w' : gx_W} {X : List (Nat × Nat)} {k : Nat} {v : Nat → Int32} (h : w.1 = X) (e : w' = s_a w k v) : w'.1 = X := by subst e; exact h
theorem y_s_q {w w' : gx_W} {X : List (Nat × Nat)} {k : Nat} {v : Nat → Option Nat} (h : w.1 = X) (e : w' = s_q w k v) : w'.1 = X := by subst e; exact h
theorem y_app {w w' : gx_W} {Ls k : Nat} {c : Nat × Nat} (h : w.1 = (30, Ls) :: klW.take k) (e : klW.take k ++ [c] = klW.take (k + 1)) (hw : w' = a_n w (k + 1) c) : w'.1 = (30, Ls) :: klW.take (k + 1) := by
  subst hw
  show w.1 ++ [c] = _
  rw [h, ← e]
  rfl
theorem g_mk {nc ns d : Nat} {M : gx_M} {Q : Option Value → gx_W → Prop} {pc : Nat} {L st : List Value} {w w' : gx_W} {idx ci r K : Nat} {q : vw_C} (hw : w.1.length = r) (hd : gx_d M pc (.new idx) 3) (hc : gx_cl[ci]? = some q) (hq : q.2.2 = K) (hl : Cond.classLink M.1.cls idx q.1 ∈ gx_T) (hi : Cond.instantiable q.1 q.2.2 ∈ gx_T) (hini : Cond.initialized q.1 ∈ gx_T) (e : a_n w r (ci, 0) = w') (kk : gx_G nc ns d M Q (pc + 3) L (.ref r :: st) w') : gx_G (nc + 1) (ns + K) d M Q pc L st w := by
  subst hq e
  rw [← a_n_eq hw] at kk
  subst hw
  exact g_new hd hc hl hi hini kk
theorem g_mk_int {nc ns d : Nat} {M : gx_M} {Q : Option Value → gx_W → Prop} {pc : Nat} {L st : List Value} {w w' : gx_W} {at_ : ArrayType} {r N : Nat} {n : Int32} (hw : w.1.length = r) (hd : gx_d M pc (.newarray at_) 2) (hat : newarray.typeOf at_ = .int) (hn : n = nI N) (hN : N ≤ 1000) (e : a_n w r (20, N) = w') (kk : gx_G nc ns d M Q (pc + 2) L (.ref r :: st) w') : gx_G (nc + 1) (ns + N) d M Q pc L (.int n :: st) w := by
  subst e hn
  rw [← a_n_eq hw] at kk
  subst hw
  exact g_newa_int hd hat ar_int (nI_pos (by omega)) (nI_n (by omega)) hN kk
theorem g_mk_byte {nc ns d : Nat} {M : gx_M} {Q : Option Value → gx_W → Prop} {pc : Nat} {L st : List Value} {w w' : gx_W} {at_ : ArrayType} {r N : Nat} {n : Int32} (hw : w.1.length = r) (hd : gx_d M pc (.newarray at_) 2) (hat : newarray.typeOf at_ = .byte) (hn : n = nI N) (hN : N ≤ 1000) (e : a_n w r (21, N) = w') (kk : gx_G nc ns d M Q (pc + 2) L (.ref r :: st) w') : gx_G (nc + 1) (ns + N) d M Q pc L (.int n :: st) w := by
  subst e hn
  rw [← a_n_eq hw] at kk
  subst hw
  exact g_newa_byte hd hat ar_byte (nI_pos (by omega)) (nI_n (by omega)) hN kk
theorem g_mk_short {nc ns d : Nat} {M : gx_M} {Q : Option Value → gx_W → Prop} {pc : Nat} {L st : List Value} {w w' : gx_W} {at_ : ArrayType} {r N : Nat} {n : Int32} (hw : w.1.length = r) (hd : gx_d M pc (.newarray at_) 2) (hat : newarray.typeOf at_ = .short) (hn : n = nI N) (hN : N ≤ 1000) (e : a_n w r (22, N) = w') (kk : gx_G nc ns d M Q (pc + 2) L (.ref r :: st) w') : gx_G (nc + 1) (ns + N) d M Q pc L (.int n :: st) w := by
  subst e hn
  rw [← a_n_eq hw] at kk
  subst hw
  exact g_newa_short hd hat ar_short (nI_pos (by omega)) (nI_n (by omega)) hN kk
theorem g_mk_long {nc ns d : Nat} {M : gx_M} {Q : Option Value → gx_W → Prop} {pc : Nat} {L st : List Value} {w w' : gx_W} {at_ : ArrayType} {r N : Nat} {n : Int32} (hw : w.1.length = r) (hd : gx_d M pc (.newarray at_) 2) (hat : newarray.typeOf at_ = .long) (hn : n = nI N) (hN : N ≤ 1000) (e : a_n w r (23, N) = w') (kk : gx_G nc ns d M Q (pc + 2) L (.ref r :: st) w') : gx_G (nc + 1) (ns + N) d M Q pc L (.int n :: st) w := by
  subst e hn
  rw [← a_n_eq hw] at kk
  subst hw
  exact g_newa_long hd hat ar_long (nI_pos (by omega)) (nI_n (by omega)) hN kk
theorem g_mkq {nc ns d : Nat} {M : gx_M} {Q : Option Value → gx_W → Prop} {pc : Nat} {L st : List Value} {w w' : gx_W} {idx r N : Nat} {n : Int32} (hw : w.1.length = r) (hd : gx_d M pc (.anewarray idx) 3) (hl : Cond.classLink M.1.cls idx "CrossroadsChoose$Shelf" ∈ gx_T) (hn : n = nI N) (hN : N ≤ 1000) (e : a_n w r (24, N) = w') (kk : gx_G nc ns d M Q (pc + 3) L (.ref r :: st) w') : gx_G (nc + 1) (ns + N) d M Q pc L (.int n :: st) w := by
  subst e hn
  rw [← a_n_eq hw] at kk
  subst hw
  exact g_newq hd hl (nI_pos (by omega)) (nI_n (by omega)) hN kk
def gM : Prop := ∀ {nc ns d : Nat} {M : gx_M} {Q : Option Value → gx_W → Prop} {pc : Nat} {L st : List Value} {w w' : gx_W} {idx r : Nat}, w.1.length = r → gx_d M pc (.multianewarray idx 2) 4 → Cond.classLink M.1.cls idx "[[I" ∈ gx_T → s_q (a_n (a_n (a_n (a_n w r (25, 3)) (r + 1) (20, 6)) (r + 2) (20, 6)) (r + 3) (20, 6)) r (fun j => if j < 3 then some (r + 1 + j) else none) = w' → gx_G nc ns d M Q (pc + 4) L (.ref r :: st) w' → gx_G (nc + 4) (ns + 21) d M Q pc L (.int 6 :: .int 3 :: st) w
theorem g_cI0 {nc ns d mc ms : Nat} {M M' : gx_M} {Q : Option Value → gx_W → Prop} {pc : Nat} {L st : List Value} {w : gx_W} {idx r : Nat} (hd : gx_d M pc (.invokespecial idx) 3) (hl : gx_ML M.1.cls idx M'.1) (hm : gx_MI M' 0) (hi : Cond.instanceMethod M'.1 ∈ gx_T) (hy : M'.1.name = "<init>") (hret : M'.2.2.2 = none) (hcat : (st.map fun v => v.category).sum ≤ 8) (hL0 : L.length = M.2.2.1) (h1 : 1 ≤ d) (kk : gx_C mc ms (d - 1) M' [.ref r] w (Qv fun w' => gx_G nc ns d M Q (pc + 3) L st w')) : gx_G (nc + mc) (ns + ms) d M Q pc L (.ref r :: st) w :=
  g_callI (mc := mc) (ms := ms) (d' := d - 1) (as := []) hd hl hm hi hy hret rfl rfl hcat hL0 (by omega) (gx_C_mono (fun r w' h => by obtain ⟨e, h⟩ := h; subst e; exact h) kk)
theorem g_cI1 {nc ns d mc ms : Nat} {M M' : gx_M} {Q : Option Value → gx_W → Prop} {pc : Nat} {L st : List Value} {w : gx_W} {idx r : Nat} {a : Value} (hd : gx_d M pc (.invokespecial idx) 3) (hl : gx_ML M.1.cls idx M'.1) (hm : gx_MI M' 1) (hi : Cond.instanceMethod M'.1 ∈ gx_T) (hy : M'.1.name = "<init>") (hret : M'.2.2.2 = none) (hcat : (st.map fun v => v.category).sum ≤ 8) (hL0 : L.length = M.2.2.1) (h1 : 1 ≤ d) (kk : gx_C mc ms (d - 1) M' [.ref r, a] w (Qv fun w' => gx_G nc ns d M Q (pc + 3) L st w')) : gx_G (nc + mc) (ns + ms) d M Q pc L (a :: .ref r :: st) w :=
  g_callI (mc := mc) (ms := ms) (d' := d - 1) (as := [a]) hd hl hm hi hy hret rfl rfl hcat hL0 (by omega) (gx_C_mono (fun r w' h => by obtain ⟨e, h⟩ := h; subst e; exact h) kk)
theorem g_fold {nc ns d : Nat} {M : gx_M} {Q : Option Value → gx_W → Prop} {pc : Nat} {L st : List Value} {w w' : gx_W} (e : w = w') (h : gx_G nc ns d M Q pc L st w') : gx_G nc ns d M Q pc L st w := e ▸ h
abbrev y0 (Ls : Nat) (xs : Nat → Int32) : gx_W := gx_w0 Ls xs
theorem yk0 {Ls : Nat} {xs : Nat → Int32} : (y0 Ls xs).1 = (30, Ls) :: klW.take 5 := rfl
def y1 (Ls : Nat) (xs : Nat → Int32) : gx_W := a_n (y0 Ls xs) 6 (9, 0)
theorem yk1 {Ls : Nat} {xs : Nat → Int32} : (y1 Ls xs).1 = (30, Ls) :: klW.take 6 := y_app (yk0 (Ls := Ls) (xs := xs)) (by decide +kernel) rfl
def y2 (Ls : Nat) (xs : Nat → Int32) : gx_W := a_n (y1 Ls xs) 7 (6, 0)
theorem yk2 {Ls : Nat} {xs : Nat → Int32} : (y2 Ls xs).1 = (30, Ls) :: klW.take 7 := y_app (yk1 (Ls := Ls) (xs := xs)) (by decide +kernel) rfl
def y3 (Ls : Nat) (xs : Nat → Int32) : gx_W := a_n (y2 Ls xs) 8 (20, 120)
theorem yk3 {Ls : Nat} {xs : Nat → Int32} : (y3 Ls xs).1 = (30, Ls) :: klW.take 8 := y_app (yk2 (Ls := Ls) (xs := xs)) (by decide +kernel) rfl
def y4 (Ls : Nat) (xs : Nat → Int32) : gx_W := s_r (y3 Ls xs) 7 0 (some 8)
theorem yk4 {Ls : Nat} {xs : Nat → Int32} : (y4 Ls xs).1 = (30, Ls) :: klW.take 8 := y_s_r (yk3 (Ls := Ls) (xs := xs)) rfl
set_option maxHeartbeats 1000000 in
theorem c_X6_init_2 {d Ls : Nat} {xs : Nat → Int32} {k : gx_W → Prop} (hd : 1 ≤ d) (hk : k (y4 Ls xs)) : gx_C 1 120 d mX6_init [.ref 7] (y2 Ls xs) (Qv k) := by
  refine gx_C_of' (L := [.ref 7]) (by decide +kernel) rfl (Nat.le_of_ble_eq_true rfl) ?_
  refine g_aload_n dX6_init_0 rfl ?_
  refine g_objInit dX6_init_1 ol_X6_1 oi_1 oi_2 (Nat.le_of_ble_eq_true rfl) rfl (by omega) ?_
  refine g_aload_n dX6_init_4 rfl ?_
  refine g_bipush (v := 120) dX6_init_5 rfl ?_
  refine g_mk_int (w' := (y3 Ls xs)) (r := 8) (N := 120) (y_len yk2 (by decide)) dX6_init_7 rfl rfl (Nat.le_of_ble_eq_true rfl) rfl ?_
  refine g_putr dX6_init_9 fl_X6_9 ft_6_0 rfl (fun _ => ⟨rfl, _, rfl, rfl⟩) (y_at yk3 (r := 6) (c := (6, 0)) (by decide +kernel)) ?_
  refine g_fold (w' := (y4 Ls xs)) rfl ?_
  refine g_vret dX6_init_12 rfl ⟨rfl, ?_⟩
  exact hk
def y5 (Ls : Nat) (xs : Nat → Int32) : gx_W := s_r (y4 Ls xs) 6 2 (some 7)
theorem yk5 {Ls : Nat} {xs : Nat → Int32} : (y5 Ls xs).1 = (30, Ls) :: klW.take 8 := y_s_r (yk4 (Ls := Ls) (xs := xs)) rfl
def y6 (Ls : Nat) (xs : Nat → Int32) : gx_W := a_n (y5 Ls xs) 9 (1, 0)
theorem yk6 {Ls : Nat} {xs : Nat → Int32} : (y6 Ls xs).1 = (30, Ls) :: klW.take 9 := y_app (yk5 (Ls := Ls) (xs := xs)) (by decide +kernel) rfl
def y7 (Ls : Nat) (xs : Nat → Int32) : gx_W := a_n (y6 Ls xs) 10 (20, 40)
theorem yk7 {Ls : Nat} {xs : Nat → Int32} : (y7 Ls xs).1 = (30, Ls) :: klW.take 10 := y_app (yk6 (Ls := Ls) (xs := xs)) (by decide +kernel) rfl
def y8 (Ls : Nat) (xs : Nat → Int32) : gx_W := s_r (y7 Ls xs) 9 0 (some 10)
theorem yk8 {Ls : Nat} {xs : Nat → Int32} : (y8 Ls xs).1 = (30, Ls) :: klW.take 10 := y_s_r (yk7 (Ls := Ls) (xs := xs)) rfl
def y9 (Ls : Nat) (xs : Nat → Int32) : gx_W := a_n (y8 Ls xs) 11 (20, 40)
theorem yk9 {Ls : Nat} {xs : Nat → Int32} : (y9 Ls xs).1 = (30, Ls) :: klW.take 11 := y_app (yk8 (Ls := Ls) (xs := xs)) (by decide +kernel) rfl
def y10 (Ls : Nat) (xs : Nat → Int32) : gx_W := s_r (y9 Ls xs) 9 1 (some 11)
theorem yk10 {Ls : Nat} {xs : Nat → Int32} : (y10 Ls xs).1 = (30, Ls) :: klW.take 11 := y_s_r (yk9 (Ls := Ls) (xs := xs)) rfl
def y11 (Ls : Nat) (xs : Nat → Int32) : gx_W := a_n (y10 Ls xs) 12 (20, 40)
theorem yk11 {Ls : Nat} {xs : Nat → Int32} : (y11 Ls xs).1 = (30, Ls) :: klW.take 12 := y_app (yk10 (Ls := Ls) (xs := xs)) (by decide +kernel) rfl
def y12 (Ls : Nat) (xs : Nat → Int32) : gx_W := s_r (y11 Ls xs) 9 2 (some 12)
theorem yk12 {Ls : Nat} {xs : Nat → Int32} : (y12 Ls xs).1 = (30, Ls) :: klW.take 12 := y_s_r (yk11 (Ls := Ls) (xs := xs)) rfl
def y13 (Ls : Nat) (xs : Nat → Int32) : gx_W := a_n (y12 Ls xs) 13 (20, 40)
theorem yk13 {Ls : Nat} {xs : Nat → Int32} : (y13 Ls xs).1 = (30, Ls) :: klW.take 13 := y_app (yk12 (Ls := Ls) (xs := xs)) (by decide +kernel) rfl
def y14 (Ls : Nat) (xs : Nat → Int32) : gx_W := s_r (y13 Ls xs) 9 3 (some 13)
theorem yk14 {Ls : Nat} {xs : Nat → Int32} : (y14 Ls xs).1 = (30, Ls) :: klW.take 13 := y_s_r (yk13 (Ls := Ls) (xs := xs)) rfl
set_option maxHeartbeats 1000000 in
theorem c_X1_init_3 {d Ls : Nat} {xs : Nat → Int32} {k : gx_W → Prop} (hd : 1 ≤ d) (hk : k (y14 Ls xs)) : gx_C 4 160 d mX1_init [.ref 9] (y6 Ls xs) (Qv k) := by
  refine gx_C_of' (L := [.ref 9]) (by decide +kernel) rfl (Nat.le_of_ble_eq_true rfl) ?_
  refine g_aload_n dX1_init_0 rfl ?_
  refine g_objInit dX1_init_1 ol_X1_1 oi_1 oi_2 (Nat.le_of_ble_eq_true rfl) rfl (by omega) ?_
  refine g_aload_n dX1_init_4 rfl ?_
  refine g_bipush (v := 40) dX1_init_5 rfl ?_
  refine g_mk_int (w' := (y7 Ls xs)) (r := 10) (N := 40) (y_len yk6 (by decide)) dX1_init_7 rfl rfl (Nat.le_of_ble_eq_true rfl) rfl ?_
  refine g_putr dX1_init_9 fl_X1_9 ft_1_0 rfl (fun _ => ⟨rfl, _, rfl, rfl⟩) (y_at yk7 (r := 8) (c := (1, 0)) (by decide +kernel)) ?_
  refine g_fold (w' := (y8 Ls xs)) rfl ?_
  refine g_aload_n dX1_init_12 rfl ?_
  refine g_bipush (v := 40) dX1_init_13 rfl ?_
  refine g_mk_int (w' := (y9 Ls xs)) (r := 11) (N := 40) (y_len yk8 (by decide)) dX1_init_15 rfl rfl (Nat.le_of_ble_eq_true rfl) rfl ?_
  refine g_putr dX1_init_17 fl_X1_13 ft_1_1 rfl (fun _ => ⟨rfl, _, rfl, rfl⟩) (y_at yk9 (r := 8) (c := (1, 0)) (by decide +kernel)) ?_
  refine g_fold (w' := (y10 Ls xs)) rfl ?_
  refine g_aload_n dX1_init_20 rfl ?_
  refine g_bipush (v := 40) dX1_init_21 rfl ?_
  refine g_mk_int (w' := (y11 Ls xs)) (r := 12) (N := 40) (y_len yk10 (by decide)) dX1_init_23 rfl rfl (Nat.le_of_ble_eq_true rfl) rfl ?_
  refine g_putr dX1_init_25 fl_X1_16 ft_1_2 rfl (fun _ => ⟨rfl, _, rfl, rfl⟩) (y_at yk11 (r := 8) (c := (1, 0)) (by decide +kernel)) ?_
  refine g_fold (w' := (y12 Ls xs)) rfl ?_
  refine g_aload_n dX1_init_28 rfl ?_
  refine g_bipush (v := 40) dX1_init_29 rfl ?_
  refine g_mk_int (w' := (y13 Ls xs)) (r := 13) (N := 40) (y_len yk12 (by decide)) dX1_init_31 rfl rfl (Nat.le_of_ble_eq_true rfl) rfl ?_
  refine g_putr dX1_init_33 fl_X1_19 ft_1_3 rfl (fun _ => ⟨rfl, _, rfl, rfl⟩) (y_at yk13 (r := 8) (c := (1, 0)) (by decide +kernel)) ?_
  refine g_fold (w' := (y14 Ls xs)) rfl ?_
  refine g_vret dX1_init_36 rfl ⟨rfl, ?_⟩
  exact hk
def y15 (Ls : Nat) (xs : Nat → Int32) : gx_W := s_r (y14 Ls xs) 6 3 (some 9)
theorem yk15 {Ls : Nat} {xs : Nat → Int32} : (y15 Ls xs).1 = (30, Ls) :: klW.take 13 := y_s_r (yk14 (Ls := Ls) (xs := xs)) rfl
def y16 (Ls : Nat) (xs : Nat → Int32) : gx_W := a_n (y15 Ls xs) 14 (3, 0)
theorem yk16 {Ls : Nat} {xs : Nat → Int32} : (y16 Ls xs).1 = (30, Ls) :: klW.take 14 := y_app (yk15 (Ls := Ls) (xs := xs)) (by decide +kernel) rfl
def y17 (Ls : Nat) (xs : Nat → Int32) : gx_W := a_n (y16 Ls xs) 15 (20, 6)
theorem yk17 {Ls : Nat} {xs : Nat → Int32} : (y17 Ls xs).1 = (30, Ls) :: klW.take 15 := y_app (yk16 (Ls := Ls) (xs := xs)) (by decide +kernel) rfl
def y18 (Ls : Nat) (xs : Nat → Int32) : gx_W := s_r (y17 Ls xs) 14 0 (some 15)
theorem yk18 {Ls : Nat} {xs : Nat → Int32} : (y18 Ls xs).1 = (30, Ls) :: klW.take 15 := y_s_r (yk17 (Ls := Ls) (xs := xs)) rfl
def y19 (Ls : Nat) (xs : Nat → Int32) : gx_W := a_n (y18 Ls xs) 16 (20, 5)
theorem yk19 {Ls : Nat} {xs : Nat → Int32} : (y19 Ls xs).1 = (30, Ls) :: klW.take 16 := y_app (yk18 (Ls := Ls) (xs := xs)) (by decide +kernel) rfl
def y20 (Ls : Nat) (xs : Nat → Int32) : gx_W := s_r (y19 Ls xs) 14 1 (some 16)
theorem yk20 {Ls : Nat} {xs : Nat → Int32} : (y20 Ls xs).1 = (30, Ls) :: klW.take 16 := y_s_r (yk19 (Ls := Ls) (xs := xs)) rfl
set_option maxHeartbeats 1000000 in
theorem c_X3_init_4 {d Ls : Nat} {xs : Nat → Int32} {k : gx_W → Prop} (hd : 1 ≤ d) (hk : k (y20 Ls xs)) : gx_C 2 11 d mX3_init [.ref 14] (y16 Ls xs) (Qv k) := by
  refine gx_C_of' (L := [.ref 14]) (by decide +kernel) rfl (Nat.le_of_ble_eq_true rfl) ?_
  refine g_aload_n dX3_init_0 rfl ?_
  refine g_objInit dX3_init_1 ol_X3_3 oi_1 oi_2 (Nat.le_of_ble_eq_true rfl) rfl (by omega) ?_
  refine g_aload_n dX3_init_4 rfl ?_
  refine g_bipush (v := 6) dX3_init_5 rfl ?_
  refine g_mk_int (w' := (y17 Ls xs)) (r := 15) (N := 6) (y_len yk16 (by decide)) dX3_init_7 rfl rfl (Nat.le_of_ble_eq_true rfl) rfl ?_
  refine g_putr dX3_init_9 fl_X3_9 ft_3_0 rfl (fun _ => ⟨rfl, _, rfl, rfl⟩) (y_at yk17 (r := 13) (c := (3, 0)) (by decide +kernel)) ?_
  refine g_fold (w' := (y18 Ls xs)) rfl ?_
  refine g_aload_n dX3_init_12 rfl ?_
  refine g_iconst (v := 5) dX3_init_13 rfl ?_
  refine g_mk_int (w' := (y19 Ls xs)) (r := 16) (N := 5) (y_len yk18 (by decide)) dX3_init_14 rfl rfl (Nat.le_of_ble_eq_true rfl) rfl ?_
  refine g_putr dX3_init_16 fl_X3_15 ft_3_1 rfl (fun _ => ⟨rfl, _, rfl, rfl⟩) (y_at yk19 (r := 13) (c := (3, 0)) (by decide +kernel)) ?_
  refine g_fold (w' := (y20 Ls xs)) rfl ?_
  refine g_vret dX3_init_19 rfl ⟨rfl, ?_⟩
  exact hk
def y21 (Ls : Nat) (xs : Nat → Int32) : gx_W := s_r (y20 Ls xs) 6 4 (some 14)
theorem yk21 {Ls : Nat} {xs : Nat → Int32} : (y21 Ls xs).1 = (30, Ls) :: klW.take 16 := y_s_r (yk20 (Ls := Ls) (xs := xs)) rfl
def y22 (Ls : Nat) (xs : Nat → Int32) : gx_W := a_n (y21 Ls xs) 17 (0, 0)
theorem yk22 {Ls : Nat} {xs : Nat → Int32} : (y22 Ls xs).1 = (30, Ls) :: klW.take 17 := y_app (yk21 (Ls := Ls) (xs := xs)) (by decide +kernel) rfl
def y23 (Ls : Nat) (xs : Nat → Int32) : gx_W := a_n (y22 Ls xs) 18 (20, 50)
theorem yk23 {Ls : Nat} {xs : Nat → Int32} : (y23 Ls xs).1 = (30, Ls) :: klW.take 18 := y_app (yk22 (Ls := Ls) (xs := xs)) (by decide +kernel) rfl
def y24 (Ls : Nat) (xs : Nat → Int32) : gx_W := s_r (y23 Ls xs) 17 0 (some 18)
theorem yk24 {Ls : Nat} {xs : Nat → Int32} : (y24 Ls xs).1 = (30, Ls) :: klW.take 18 := y_s_r (yk23 (Ls := Ls) (xs := xs)) rfl
def y25 (Ls : Nat) (xs : Nat → Int32) : gx_W := a_n (y24 Ls xs) 19 (20, 24)
theorem yk25 {Ls : Nat} {xs : Nat → Int32} : (y25 Ls xs).1 = (30, Ls) :: klW.take 19 := y_app (yk24 (Ls := Ls) (xs := xs)) (by decide +kernel) rfl
def y26 (Ls : Nat) (xs : Nat → Int32) : gx_W := s_r (y25 Ls xs) 17 1 (some 19)
theorem yk26 {Ls : Nat} {xs : Nat → Int32} : (y26 Ls xs).1 = (30, Ls) :: klW.take 19 := y_s_r (yk25 (Ls := Ls) (xs := xs)) rfl
set_option maxHeartbeats 1000000 in
theorem c_X0_init_5 {d Ls : Nat} {xs : Nat → Int32} {k : gx_W → Prop} (hd : 1 ≤ d) (hk : k (y26 Ls xs)) : gx_C 2 74 d mX0_init [.ref 17] (y22 Ls xs) (Qv k) := by
  refine gx_C_of' (L := [.ref 17]) (by decide +kernel) rfl (Nat.le_of_ble_eq_true rfl) ?_
  refine g_aload_n dX0_init_0 rfl ?_
  refine g_objInit dX0_init_1 ol_X0_3 oi_1 oi_2 (Nat.le_of_ble_eq_true rfl) rfl (by omega) ?_
  refine g_aload_n dX0_init_4 rfl ?_
  refine g_bipush (v := 50) dX0_init_5 rfl ?_
  refine g_mk_int (w' := (y23 Ls xs)) (r := 18) (N := 50) (y_len yk22 (by decide)) dX0_init_7 rfl rfl (Nat.le_of_ble_eq_true rfl) rfl ?_
  refine g_putr dX0_init_9 fl_X0_11 ft_0_0 rfl (fun _ => ⟨rfl, _, rfl, rfl⟩) (y_at yk23 (r := 16) (c := (0, 0)) (by decide +kernel)) ?_
  refine g_fold (w' := (y24 Ls xs)) rfl ?_
  refine g_aload_n dX0_init_12 rfl ?_
  refine g_bipush (v := 24) dX0_init_13 rfl ?_
  refine g_mk_int (w' := (y25 Ls xs)) (r := 19) (N := 24) (y_len yk24 (by decide)) dX0_init_15 rfl rfl (Nat.le_of_ble_eq_true rfl) rfl ?_
  refine g_putr dX0_init_17 fl_X0_15 ft_0_1 rfl (fun _ => ⟨rfl, _, rfl, rfl⟩) (y_at yk25 (r := 16) (c := (0, 0)) (by decide +kernel)) ?_
  refine g_fold (w' := (y26 Ls xs)) rfl ?_
  refine g_vret dX0_init_20 rfl ⟨rfl, ?_⟩
  exact hk
def y27 (Ls : Nat) (xs : Nat → Int32) : gx_W := s_r (y26 Ls xs) 6 5 (some 17)
theorem yk27 {Ls : Nat} {xs : Nat → Int32} : (y27 Ls xs).1 = (30, Ls) :: klW.take 19 := y_s_r (yk26 (Ls := Ls) (xs := xs)) rfl
def y28 (Ls : Nat) (xs : Nat → Int32) : gx_W := a_n (y27 Ls xs) 20 (24, 6)
theorem yk28 {Ls : Nat} {xs : Nat → Int32} : (y28 Ls xs).1 = (30, Ls) :: klW.take 20 := y_app (yk27 (Ls := Ls) (xs := xs)) (by decide +kernel) rfl
def y29 (Ls : Nat) (xs : Nat → Int32) : gx_W := s_r (y28 Ls xs) 6 6 (some 20)
theorem yk29 {Ls : Nat} {xs : Nat → Int32} : (y29 Ls xs).1 = (30, Ls) :: klW.take 20 := y_s_r (yk28 (Ls := Ls) (xs := xs)) rfl
def y30 (Ls : Nat) (xs : Nat → Int32) : gx_W := a_n (y29 Ls xs) 21 (20, 5)
theorem yk30 {Ls : Nat} {xs : Nat → Int32} : (y30 Ls xs).1 = (30, Ls) :: klW.take 21 := y_app (yk29 (Ls := Ls) (xs := xs)) (by decide +kernel) rfl
def y31 (Ls : Nat) (xs : Nat → Int32) : gx_W := s_r (y30 Ls xs) 6 7 (some 21)
theorem yk31 {Ls : Nat} {xs : Nat → Int32} : (y31 Ls xs).1 = (30, Ls) :: klW.take 21 := y_s_r (yk30 (Ls := Ls) (xs := xs)) rfl
def y32 (Ls : Nat) (xs : Nat → Int32) : gx_W := a_n (y31 Ls xs) 22 (20, 3)
theorem yk32 {Ls : Nat} {xs : Nat → Int32} : (y32 Ls xs).1 = (30, Ls) :: klW.take 22 := y_app (yk31 (Ls := Ls) (xs := xs)) (by decide +kernel) rfl
def y33 (Ls : Nat) (xs : Nat → Int32) : gx_W := s_r (y32 Ls xs) 6 8 (some 22)
theorem yk33 {Ls : Nat} {xs : Nat → Int32} : (y33 Ls xs).1 = (30, Ls) :: klW.take 22 := y_s_r (yk32 (Ls := Ls) (xs := xs)) rfl
def y34 (Ls : Nat) (xs : Nat → Int32) : gx_W := s_q (a_n (a_n (a_n (a_n (y33 Ls xs) 23 (25, 3)) (23 + 1) (20, 6)) (23 + 2) (20, 6)) (23 + 3) (20, 6)) 23 (fun j => if j < 3 then some (23 + 1 + j) else none)
theorem yk34 {Ls : Nat} {xs : Nat → Int32} : (y34 Ls xs).1 = (30, Ls) :: klW.take 26 := by
  have a1 : (a_n (y33 Ls xs) 23 (25, 3)).1 = (30, Ls) :: klW.take 23 := y_app (k := 22) (c := (25, 3)) (yk33 (Ls := Ls) (xs := xs)) (by decide +kernel) rfl
  have a2 : (a_n (a_n (y33 Ls xs) 23 (25, 3)) (23 + 1) (20, 6)).1 = (30, Ls) :: klW.take 24 := y_app (k := 23) (c := (20, 6)) a1 (by decide +kernel) rfl
  have a3 : (a_n (a_n (a_n (y33 Ls xs) 23 (25, 3)) (23 + 1) (20, 6)) (23 + 2) (20, 6)).1 = (30, Ls) :: klW.take 25 := y_app (k := 24) (c := (20, 6)) a2 (by decide +kernel) rfl
  have a4 : (a_n (a_n (a_n (a_n (y33 Ls xs) 23 (25, 3)) (23 + 1) (20, 6)) (23 + 2) (20, 6)) (23 + 3) (20, 6)).1 = (30, Ls) :: klW.take 26 := y_app (k := 25) (c := (20, 6)) a3 (by decide +kernel) rfl
  exact y_s_q a4 rfl
def y35 (Ls : Nat) (xs : Nat → Int32) : gx_W := s_r (y34 Ls xs) 6 9 (some 23)
theorem yk35 {Ls : Nat} {xs : Nat → Int32} : (y35 Ls xs).1 = (30, Ls) :: klW.take 26 := y_s_r (yk34 (Ls := Ls) (xs := xs)) rfl
def y36 (Ls : Nat) (xs : Nat → Int32) : gx_W := a_n (y35 Ls xs) 27 (4, 0)
theorem yk36 {Ls : Nat} {xs : Nat → Int32} : (y36 Ls xs).1 = (30, Ls) :: klW.take 27 := y_app (yk35 (Ls := Ls) (xs := xs)) (by decide +kernel) rfl
def y37 (Ls : Nat) (xs : Nat → Int32) : gx_W := a_n (y36 Ls xs) 28 (20, 128)
theorem yk37 {Ls : Nat} {xs : Nat → Int32} : (y37 Ls xs).1 = (30, Ls) :: klW.take 28 := y_app (yk36 (Ls := Ls) (xs := xs)) (by decide +kernel) rfl
def y38 (Ls : Nat) (xs : Nat → Int32) : gx_W := s_r (y37 Ls xs) 27 0 (some 28)
theorem yk38 {Ls : Nat} {xs : Nat → Int32} : (y38 Ls xs).1 = (30, Ls) :: klW.take 28 := y_s_r (yk37 (Ls := Ls) (xs := xs)) rfl
def y39 (Ls : Nat) (xs : Nat → Int32) : gx_W := a_n (y38 Ls xs) 29 (20, 128)
theorem yk39 {Ls : Nat} {xs : Nat → Int32} : (y39 Ls xs).1 = (30, Ls) :: klW.take 29 := y_app (yk38 (Ls := Ls) (xs := xs)) (by decide +kernel) rfl
def y40 (Ls : Nat) (xs : Nat → Int32) : gx_W := s_r (y39 Ls xs) 27 1 (some 29)
theorem yk40 {Ls : Nat} {xs : Nat → Int32} : (y40 Ls xs).1 = (30, Ls) :: klW.take 29 := y_s_r (yk39 (Ls := Ls) (xs := xs)) rfl
def y41 (Ls : Nat) (xs : Nat → Int32) : gx_W := a_n (y40 Ls xs) 30 (20, 64)
theorem yk41 {Ls : Nat} {xs : Nat → Int32} : (y41 Ls xs).1 = (30, Ls) :: klW.take 30 := y_app (yk40 (Ls := Ls) (xs := xs)) (by decide +kernel) rfl
def y42 (Ls : Nat) (xs : Nat → Int32) : gx_W := s_r (y41 Ls xs) 27 2 (some 30)
theorem yk42 {Ls : Nat} {xs : Nat → Int32} : (y42 Ls xs).1 = (30, Ls) :: klW.take 30 := y_s_r (yk41 (Ls := Ls) (xs := xs)) rfl
def y43 (Ls : Nat) (xs : Nat → Int32) : gx_W := a_n (y42 Ls xs) 31 (20, 6)
theorem yk43 {Ls : Nat} {xs : Nat → Int32} : (y43 Ls xs).1 = (30, Ls) :: klW.take 31 := y_app (yk42 (Ls := Ls) (xs := xs)) (by decide +kernel) rfl
def y44 (Ls : Nat) (xs : Nat → Int32) : gx_W := s_r (y43 Ls xs) 27 3 (some 31)
theorem yk44 {Ls : Nat} {xs : Nat → Int32} : (y44 Ls xs).1 = (30, Ls) :: klW.take 31 := y_s_r (yk43 (Ls := Ls) (xs := xs)) rfl
set_option maxHeartbeats 1000000 in
theorem c_X4_init_6 {d Ls : Nat} {xs : Nat → Int32} {k : gx_W → Prop} (hd : 1 ≤ d) (hk : k (y44 Ls xs)) : gx_C 4 326 d mX4_init [.ref 27] (y36 Ls xs) (Qv k) := by
  refine gx_C_of' (L := [.ref 27]) (by decide +kernel) rfl (Nat.le_of_ble_eq_true rfl) ?_
  refine g_aload_n dX4_init_0 rfl ?_
  refine g_objInit dX4_init_1 ol_X4_1 oi_1 oi_2 (Nat.le_of_ble_eq_true rfl) rfl (by omega) ?_
  refine g_aload_n dX4_init_4 rfl ?_
  refine g_sipush (v := 128) dX4_init_5 rfl ?_
  refine g_mk_int (w' := (y37 Ls xs)) (r := 28) (N := 128) (y_len yk36 (by decide)) dX4_init_8 rfl rfl (Nat.le_of_ble_eq_true rfl) rfl ?_
  refine g_putr dX4_init_10 fl_X4_9 ft_4_0 rfl (fun _ => ⟨rfl, _, rfl, rfl⟩) (y_at yk37 (r := 26) (c := (4, 0)) (by decide +kernel)) ?_
  refine g_fold (w' := (y38 Ls xs)) rfl ?_
  refine g_aload_n dX4_init_13 rfl ?_
  refine g_sipush (v := 128) dX4_init_14 rfl ?_
  refine g_mk_int (w' := (y39 Ls xs)) (r := 29) (N := 128) (y_len yk38 (by decide)) dX4_init_17 rfl rfl (Nat.le_of_ble_eq_true rfl) rfl ?_
  refine g_putr dX4_init_19 fl_X4_13 ft_4_1 rfl (fun _ => ⟨rfl, _, rfl, rfl⟩) (y_at yk39 (r := 26) (c := (4, 0)) (by decide +kernel)) ?_
  refine g_fold (w' := (y40 Ls xs)) rfl ?_
  refine g_aload_n dX4_init_22 rfl ?_
  refine g_bipush (v := 64) dX4_init_23 rfl ?_
  refine g_mk_int (w' := (y41 Ls xs)) (r := 30) (N := 64) (y_len yk40 (by decide)) dX4_init_25 rfl rfl (Nat.le_of_ble_eq_true rfl) rfl ?_
  refine g_putr dX4_init_27 fl_X4_16 ft_4_2 rfl (fun _ => ⟨rfl, _, rfl, rfl⟩) (y_at yk41 (r := 26) (c := (4, 0)) (by decide +kernel)) ?_
  refine g_fold (w' := (y42 Ls xs)) rfl ?_
  refine g_aload_n dX4_init_30 rfl ?_
  refine g_bipush (v := 6) dX4_init_31 rfl ?_
  refine g_mk_int (w' := (y43 Ls xs)) (r := 31) (N := 6) (y_len yk42 (by decide)) dX4_init_33 rfl rfl (Nat.le_of_ble_eq_true rfl) rfl ?_
  refine g_putr dX4_init_35 fl_X4_19 ft_4_3 rfl (fun _ => ⟨rfl, _, rfl, rfl⟩) (y_at yk43 (r := 26) (c := (4, 0)) (by decide +kernel)) ?_
  refine g_fold (w' := (y44 Ls xs)) rfl ?_
  refine g_vret dX4_init_38 rfl ⟨rfl, ?_⟩
  exact hk
def y45 (Ls : Nat) (xs : Nat → Int32) : gx_W := s_r (y44 Ls xs) 6 10 (some 27)
theorem yk45 {Ls : Nat} {xs : Nat → Int32} : (y45 Ls xs).1 = (30, Ls) :: klW.take 31 := y_s_r (yk44 (Ls := Ls) (xs := xs)) rfl
def y46 (Ls : Nat) (xs : Nat → Int32) : gx_W := a_n (y45 Ls xs) 32 (4, 0)
theorem yk46 {Ls : Nat} {xs : Nat → Int32} : (y46 Ls xs).1 = (30, Ls) :: klW.take 32 := y_app (yk45 (Ls := Ls) (xs := xs)) (by decide +kernel) rfl
def y47 (Ls : Nat) (xs : Nat → Int32) : gx_W := a_n (y46 Ls xs) 33 (20, 128)
theorem yk47 {Ls : Nat} {xs : Nat → Int32} : (y47 Ls xs).1 = (30, Ls) :: klW.take 33 := y_app (yk46 (Ls := Ls) (xs := xs)) (by decide +kernel) rfl
def y48 (Ls : Nat) (xs : Nat → Int32) : gx_W := s_r (y47 Ls xs) 32 0 (some 33)
theorem yk48 {Ls : Nat} {xs : Nat → Int32} : (y48 Ls xs).1 = (30, Ls) :: klW.take 33 := y_s_r (yk47 (Ls := Ls) (xs := xs)) rfl
def y49 (Ls : Nat) (xs : Nat → Int32) : gx_W := a_n (y48 Ls xs) 34 (20, 128)
theorem yk49 {Ls : Nat} {xs : Nat → Int32} : (y49 Ls xs).1 = (30, Ls) :: klW.take 34 := y_app (yk48 (Ls := Ls) (xs := xs)) (by decide +kernel) rfl
def y50 (Ls : Nat) (xs : Nat → Int32) : gx_W := s_r (y49 Ls xs) 32 1 (some 34)
theorem yk50 {Ls : Nat} {xs : Nat → Int32} : (y50 Ls xs).1 = (30, Ls) :: klW.take 34 := y_s_r (yk49 (Ls := Ls) (xs := xs)) rfl
def y51 (Ls : Nat) (xs : Nat → Int32) : gx_W := a_n (y50 Ls xs) 35 (20, 64)
theorem yk51 {Ls : Nat} {xs : Nat → Int32} : (y51 Ls xs).1 = (30, Ls) :: klW.take 35 := y_app (yk50 (Ls := Ls) (xs := xs)) (by decide +kernel) rfl
def y52 (Ls : Nat) (xs : Nat → Int32) : gx_W := s_r (y51 Ls xs) 32 2 (some 35)
theorem yk52 {Ls : Nat} {xs : Nat → Int32} : (y52 Ls xs).1 = (30, Ls) :: klW.take 35 := y_s_r (yk51 (Ls := Ls) (xs := xs)) rfl
def y53 (Ls : Nat) (xs : Nat → Int32) : gx_W := a_n (y52 Ls xs) 36 (20, 6)
theorem yk53 {Ls : Nat} {xs : Nat → Int32} : (y53 Ls xs).1 = (30, Ls) :: klW.take 36 := y_app (yk52 (Ls := Ls) (xs := xs)) (by decide +kernel) rfl
def y54 (Ls : Nat) (xs : Nat → Int32) : gx_W := s_r (y53 Ls xs) 32 3 (some 36)
theorem yk54 {Ls : Nat} {xs : Nat → Int32} : (y54 Ls xs).1 = (30, Ls) :: klW.take 36 := y_s_r (yk53 (Ls := Ls) (xs := xs)) rfl
set_option maxHeartbeats 1000000 in
theorem c_X4_init_7 {d Ls : Nat} {xs : Nat → Int32} {k : gx_W → Prop} (hd : 1 ≤ d) (hk : k (y54 Ls xs)) : gx_C 4 326 d mX4_init [.ref 32] (y46 Ls xs) (Qv k) := by
  refine gx_C_of' (L := [.ref 32]) (by decide +kernel) rfl (Nat.le_of_ble_eq_true rfl) ?_
  refine g_aload_n dX4_init_0 rfl ?_
  refine g_objInit dX4_init_1 ol_X4_1 oi_1 oi_2 (Nat.le_of_ble_eq_true rfl) rfl (by omega) ?_
  refine g_aload_n dX4_init_4 rfl ?_
  refine g_sipush (v := 128) dX4_init_5 rfl ?_
  refine g_mk_int (w' := (y47 Ls xs)) (r := 33) (N := 128) (y_len yk46 (by decide)) dX4_init_8 rfl rfl (Nat.le_of_ble_eq_true rfl) rfl ?_
  refine g_putr dX4_init_10 fl_X4_9 ft_4_0 rfl (fun _ => ⟨rfl, _, rfl, rfl⟩) (y_at yk47 (r := 31) (c := (4, 0)) (by decide +kernel)) ?_
  refine g_fold (w' := (y48 Ls xs)) rfl ?_
  refine g_aload_n dX4_init_13 rfl ?_
  refine g_sipush (v := 128) dX4_init_14 rfl ?_
  refine g_mk_int (w' := (y49 Ls xs)) (r := 34) (N := 128) (y_len yk48 (by decide)) dX4_init_17 rfl rfl (Nat.le_of_ble_eq_true rfl) rfl ?_
  refine g_putr dX4_init_19 fl_X4_13 ft_4_1 rfl (fun _ => ⟨rfl, _, rfl, rfl⟩) (y_at yk49 (r := 31) (c := (4, 0)) (by decide +kernel)) ?_
  refine g_fold (w' := (y50 Ls xs)) rfl ?_
  refine g_aload_n dX4_init_22 rfl ?_
  refine g_bipush (v := 64) dX4_init_23 rfl ?_
  refine g_mk_int (w' := (y51 Ls xs)) (r := 35) (N := 64) (y_len yk50 (by decide)) dX4_init_25 rfl rfl (Nat.le_of_ble_eq_true rfl) rfl ?_
  refine g_putr dX4_init_27 fl_X4_16 ft_4_2 rfl (fun _ => ⟨rfl, _, rfl, rfl⟩) (y_at yk51 (r := 31) (c := (4, 0)) (by decide +kernel)) ?_
  refine g_fold (w' := (y52 Ls xs)) rfl ?_
  refine g_aload_n dX4_init_30 rfl ?_
  refine g_bipush (v := 6) dX4_init_31 rfl ?_
  refine g_mk_int (w' := (y53 Ls xs)) (r := 36) (N := 6) (y_len yk52 (by decide)) dX4_init_33 rfl rfl (Nat.le_of_ble_eq_true rfl) rfl ?_
  refine g_putr dX4_init_35 fl_X4_19 ft_4_3 rfl (fun _ => ⟨rfl, _, rfl, rfl⟩) (y_at yk53 (r := 31) (c := (4, 0)) (by decide +kernel)) ?_
  refine g_fold (w' := (y54 Ls xs)) rfl ?_
  refine g_vret dX4_init_38 rfl ⟨rfl, ?_⟩
  exact hk
def y55 (Ls : Nat) (xs : Nat → Int32) : gx_W := a_n (y54 Ls xs) 37 (2, 0)
theorem yk55 {Ls : Nat} {xs : Nat → Int32} : (y55 Ls xs).1 = (30, Ls) :: klW.take 37 := y_app (yk54 (Ls := Ls) (xs := xs)) (by decide +kernel) rfl
def y56 (Ls : Nat) (xs : Nat → Int32) : gx_W := a_n (y55 Ls xs) 38 (20, 28)
theorem yk56 {Ls : Nat} {xs : Nat → Int32} : (y56 Ls xs).1 = (30, Ls) :: klW.take 38 := y_app (yk55 (Ls := Ls) (xs := xs)) (by decide +kernel) rfl
def y57 (Ls : Nat) (xs : Nat → Int32) : gx_W := s_r (y56 Ls xs) 37 0 (some 38)
theorem yk57 {Ls : Nat} {xs : Nat → Int32} : (y57 Ls xs).1 = (30, Ls) :: klW.take 38 := y_s_r (yk56 (Ls := Ls) (xs := xs)) rfl
def y58 (Ls : Nat) (xs : Nat → Int32) : gx_W := s_r (y57 Ls xs) 37 2 (some 32)
theorem yk58 {Ls : Nat} {xs : Nat → Int32} : (y58 Ls xs).1 = (30, Ls) :: klW.take 38 := y_s_r (yk57 (Ls := Ls) (xs := xs)) rfl
def y59 (Ls : Nat) (xs : Nat → Int32) : gx_W := s_a (y58 Ls xs) 38 (va_up (w_a (y58 Ls xs) 38) (24) (8))
theorem yk59 {Ls : Nat} {xs : Nat → Int32} : (y59 Ls xs).1 = (30, Ls) :: klW.take 38 := y_s_a (yk58 (Ls := Ls) (xs := xs)) rfl
def y60 (Ls : Nat) (xs : Nat → Int32) : gx_W := s_a (y59 Ls xs) 38 (va_up (w_a (y59 Ls xs) 38) (26) (2))
theorem yk60 {Ls : Nat} {xs : Nat → Int32} : (y60 Ls xs).1 = (30, Ls) :: klW.take 38 := y_s_a (yk59 (Ls := Ls) (xs := xs)) rfl
def y61 (Ls : Nat) (xs : Nat → Int32) : gx_W := s_a (y60 Ls xs) 38 (va_up (w_a (y60 Ls xs) 38) (27) (4))
theorem yk61 {Ls : Nat} {xs : Nat → Int32} : (y61 Ls xs).1 = (30, Ls) :: klW.take 38 := y_s_a (yk60 (Ls := Ls) (xs := xs)) rfl
set_option maxHeartbeats 1000000 in
theorem c_X2_init_8 {d Ls : Nat} {xs : Nat → Int32} {k : gx_W → Prop} (hd : 1 ≤ d) (hk : k (y61 Ls xs)) : gx_C 1 28 d mX2_init [.ref 37, .ref 32] (y55 Ls xs) (Qv k) := by
  refine gx_C_of' (L := [.ref 37, .ref 32]) (by decide +kernel) rfl (Nat.le_of_ble_eq_true rfl) ?_
  refine g_aload_n dX2_init_0 rfl ?_
  refine g_objInit dX2_init_1 ol_X2_5 oi_1 oi_2 (Nat.le_of_ble_eq_true rfl) rfl (by omega) ?_
  refine g_aload_n dX2_init_4 rfl ?_
  refine g_bipush (v := 28) dX2_init_5 rfl ?_
  refine g_mk_int (w' := (y56 Ls xs)) (r := 38) (N := 28) (y_len yk55 (by decide)) dX2_init_7 rfl rfl (Nat.le_of_ble_eq_true rfl) rfl ?_
  refine g_putr dX2_init_9 fl_X2_11 ft_2_0 rfl (fun _ => ⟨rfl, _, rfl, rfl⟩) (y_at yk56 (r := 36) (c := (2, 0)) (by decide +kernel)) ?_
  refine g_fold (w' := (y57 Ls xs)) rfl ?_
  refine g_aload_n dX2_init_12 rfl ?_
  refine g_aload_n dX2_init_13 rfl ?_
  refine g_putr dX2_init_14 fl_X2_15 ft_2_2 rfl (fun h => by cases h) (y_at yk57 (r := 36) (c := (2, 0)) (by decide +kernel)) ?_
  refine g_fold (w' := (y58 Ls xs)) rfl ?_
  refine g_aload_n dX2_init_17 rfl ?_
  refine g_getr (a := 38) dX2_init_18 fl_X2_11 (y_at yk58 (r := 36) (c := (2, 0)) (by decide +kernel)) rfl ?_
  refine g_bipush (v := 24) dX2_init_21 rfl ?_
  refine g_bipush (v := 8) dX2_init_23 rfl ?_
  refine g_iast dX2_init_25 (y_at yk58 (r := 37) (c := (20, 28)) (by decide +kernel)) (by exact vp_in_iff.mpr (by decide)) ?_
  refine g_fold (w' := (y59 Ls xs)) (by rw [show (24 : Int32).toNatClampNeg = 24 by decide]; rfl) ?_
  refine g_aload_n dX2_init_26 rfl ?_
  refine g_getr (a := 38) dX2_init_27 fl_X2_11 (y_at yk59 (r := 36) (c := (2, 0)) (by decide +kernel)) rfl ?_
  refine g_bipush (v := 26) dX2_init_30 rfl ?_
  refine g_iconst (v := 2) dX2_init_32 rfl ?_
  refine g_iast dX2_init_33 (y_at yk59 (r := 37) (c := (20, 28)) (by decide +kernel)) (by exact vp_in_iff.mpr (by decide)) ?_
  refine g_fold (w' := (y60 Ls xs)) (by rw [show (26 : Int32).toNatClampNeg = 26 by decide]; rfl) ?_
  refine g_aload_n dX2_init_34 rfl ?_
  refine g_getr (a := 38) dX2_init_35 fl_X2_11 (y_at yk60 (r := 36) (c := (2, 0)) (by decide +kernel)) rfl ?_
  refine g_bipush (v := 27) dX2_init_38 rfl ?_
  refine g_iconst (v := 4) dX2_init_40 rfl ?_
  refine g_iast dX2_init_41 (y_at yk60 (r := 37) (c := (20, 28)) (by decide +kernel)) (by exact vp_in_iff.mpr (by decide)) ?_
  refine g_fold (w' := (y61 Ls xs)) (by rw [show (27 : Int32).toNatClampNeg = 27 by decide]; rfl) ?_
  refine g_vret dX2_init_42 rfl ⟨rfl, ?_⟩
  exact hk
def y62 (Ls : Nat) (xs : Nat → Int32) : gx_W := s_r (y61 Ls xs) 6 0 (some 37)
theorem yk62 {Ls : Nat} {xs : Nat → Int32} : (y62 Ls xs).1 = (30, Ls) :: klW.take 38 := y_s_r (yk61 (Ls := Ls) (xs := xs)) rfl
def y63 (Ls : Nat) (xs : Nat → Int32) : gx_W := a_n (y62 Ls xs) 39 (7, 0)
theorem yk63 {Ls : Nat} {xs : Nat → Int32} : (y63 Ls xs).1 = (30, Ls) :: klW.take 39 := y_app (yk62 (Ls := Ls) (xs := xs)) (by decide +kernel) rfl
def y64 (Ls : Nat) (xs : Nat → Int32) : gx_W := a_n (y63 Ls xs) 40 (20, 6)
theorem yk64 {Ls : Nat} {xs : Nat → Int32} : (y64 Ls xs).1 = (30, Ls) :: klW.take 40 := y_app (yk63 (Ls := Ls) (xs := xs)) (by decide +kernel) rfl
def y65 (Ls : Nat) (xs : Nat → Int32) : gx_W := s_r (y64 Ls xs) 39 1 (some 40)
theorem yk65 {Ls : Nat} {xs : Nat → Int32} : (y65 Ls xs).1 = (30, Ls) :: klW.take 40 := y_s_r (yk64 (Ls := Ls) (xs := xs)) rfl
def y66 (Ls : Nat) (xs : Nat → Int32) : gx_W := a_n (y65 Ls xs) 41 (20, 6)
theorem yk66 {Ls : Nat} {xs : Nat → Int32} : (y66 Ls xs).1 = (30, Ls) :: klW.take 41 := y_app (yk65 (Ls := Ls) (xs := xs)) (by decide +kernel) rfl
def y67 (Ls : Nat) (xs : Nat → Int32) : gx_W := s_r (y66 Ls xs) 39 2 (some 41)
theorem yk67 {Ls : Nat} {xs : Nat → Int32} : (y67 Ls xs).1 = (30, Ls) :: klW.take 41 := y_s_r (yk66 (Ls := Ls) (xs := xs)) rfl
def y68 (Ls : Nat) (xs : Nat → Int32) : gx_W := a_n (y67 Ls xs) 42 (20, 6)
theorem yk68 {Ls : Nat} {xs : Nat → Int32} : (y68 Ls xs).1 = (30, Ls) :: klW.take 42 := y_app (yk67 (Ls := Ls) (xs := xs)) (by decide +kernel) rfl
def y69 (Ls : Nat) (xs : Nat → Int32) : gx_W := s_r (y68 Ls xs) 39 3 (some 42)
theorem yk69 {Ls : Nat} {xs : Nat → Int32} : (y69 Ls xs).1 = (30, Ls) :: klW.take 42 := y_s_r (yk68 (Ls := Ls) (xs := xs)) rfl
def y70 (Ls : Nat) (xs : Nat → Int32) : gx_W := a_n (y69 Ls xs) 43 (2, 0)
theorem yk70 {Ls : Nat} {xs : Nat → Int32} : (y70 Ls xs).1 = (30, Ls) :: klW.take 43 := y_app (yk69 (Ls := Ls) (xs := xs)) (by decide +kernel) rfl
def y71 (Ls : Nat) (xs : Nat → Int32) : gx_W := a_n (y70 Ls xs) 44 (20, 28)
theorem yk71 {Ls : Nat} {xs : Nat → Int32} : (y71 Ls xs).1 = (30, Ls) :: klW.take 44 := y_app (yk70 (Ls := Ls) (xs := xs)) (by decide +kernel) rfl
def y72 (Ls : Nat) (xs : Nat → Int32) : gx_W := s_r (y71 Ls xs) 43 0 (some 44)
theorem yk72 {Ls : Nat} {xs : Nat → Int32} : (y72 Ls xs).1 = (30, Ls) :: klW.take 44 := y_s_r (yk71 (Ls := Ls) (xs := xs)) rfl
def y73 (Ls : Nat) (xs : Nat → Int32) : gx_W := s_r (y72 Ls xs) 43 2 (some 32)
theorem yk73 {Ls : Nat} {xs : Nat → Int32} : (y73 Ls xs).1 = (30, Ls) :: klW.take 44 := y_s_r (yk72 (Ls := Ls) (xs := xs)) rfl
def y74 (Ls : Nat) (xs : Nat → Int32) : gx_W := s_a (y73 Ls xs) 44 (va_up (w_a (y73 Ls xs) 44) (24) (8))
theorem yk74 {Ls : Nat} {xs : Nat → Int32} : (y74 Ls xs).1 = (30, Ls) :: klW.take 44 := y_s_a (yk73 (Ls := Ls) (xs := xs)) rfl
def y75 (Ls : Nat) (xs : Nat → Int32) : gx_W := s_a (y74 Ls xs) 44 (va_up (w_a (y74 Ls xs) 44) (26) (2))
theorem yk75 {Ls : Nat} {xs : Nat → Int32} : (y75 Ls xs).1 = (30, Ls) :: klW.take 44 := y_s_a (yk74 (Ls := Ls) (xs := xs)) rfl
def y76 (Ls : Nat) (xs : Nat → Int32) : gx_W := s_a (y75 Ls xs) 44 (va_up (w_a (y75 Ls xs) 44) (27) (4))
theorem yk76 {Ls : Nat} {xs : Nat → Int32} : (y76 Ls xs).1 = (30, Ls) :: klW.take 44 := y_s_a (yk75 (Ls := Ls) (xs := xs)) rfl
set_option maxHeartbeats 1000000 in
theorem c_X2_init_10 {d Ls : Nat} {xs : Nat → Int32} {k : gx_W → Prop} (hd : 1 ≤ d) (hk : k (y76 Ls xs)) : gx_C 1 28 d mX2_init [.ref 43, .ref 32] (y70 Ls xs) (Qv k) := by
  refine gx_C_of' (L := [.ref 43, .ref 32]) (by decide +kernel) rfl (Nat.le_of_ble_eq_true rfl) ?_
  refine g_aload_n dX2_init_0 rfl ?_
  refine g_objInit dX2_init_1 ol_X2_5 oi_1 oi_2 (Nat.le_of_ble_eq_true rfl) rfl (by omega) ?_
  refine g_aload_n dX2_init_4 rfl ?_
  refine g_bipush (v := 28) dX2_init_5 rfl ?_
  refine g_mk_int (w' := (y71 Ls xs)) (r := 44) (N := 28) (y_len yk70 (by decide)) dX2_init_7 rfl rfl (Nat.le_of_ble_eq_true rfl) rfl ?_
  refine g_putr dX2_init_9 fl_X2_11 ft_2_0 rfl (fun _ => ⟨rfl, _, rfl, rfl⟩) (y_at yk71 (r := 42) (c := (2, 0)) (by decide +kernel)) ?_
  refine g_fold (w' := (y72 Ls xs)) rfl ?_
  refine g_aload_n dX2_init_12 rfl ?_
  refine g_aload_n dX2_init_13 rfl ?_
  refine g_putr dX2_init_14 fl_X2_15 ft_2_2 rfl (fun h => by cases h) (y_at yk72 (r := 42) (c := (2, 0)) (by decide +kernel)) ?_
  refine g_fold (w' := (y73 Ls xs)) rfl ?_
  refine g_aload_n dX2_init_17 rfl ?_
  refine g_getr (a := 44) dX2_init_18 fl_X2_11 (y_at yk73 (r := 42) (c := (2, 0)) (by decide +kernel)) rfl ?_
  refine g_bipush (v := 24) dX2_init_21 rfl ?_
  refine g_bipush (v := 8) dX2_init_23 rfl ?_
  refine g_iast dX2_init_25 (y_at yk73 (r := 43) (c := (20, 28)) (by decide +kernel)) (by exact vp_in_iff.mpr (by decide)) ?_
  refine g_fold (w' := (y74 Ls xs)) (by rw [show (24 : Int32).toNatClampNeg = 24 by decide]; rfl) ?_
  refine g_aload_n dX2_init_26 rfl ?_
  refine g_getr (a := 44) dX2_init_27 fl_X2_11 (y_at yk74 (r := 42) (c := (2, 0)) (by decide +kernel)) rfl ?_
  refine g_bipush (v := 26) dX2_init_30 rfl ?_
  refine g_iconst (v := 2) dX2_init_32 rfl ?_
  refine g_iast dX2_init_33 (y_at yk74 (r := 43) (c := (20, 28)) (by decide +kernel)) (by exact vp_in_iff.mpr (by decide)) ?_
  refine g_fold (w' := (y75 Ls xs)) (by rw [show (26 : Int32).toNatClampNeg = 26 by decide]; rfl) ?_
  refine g_aload_n dX2_init_34 rfl ?_
  refine g_getr (a := 44) dX2_init_35 fl_X2_11 (y_at yk75 (r := 42) (c := (2, 0)) (by decide +kernel)) rfl ?_
  refine g_bipush (v := 27) dX2_init_38 rfl ?_
  refine g_iconst (v := 4) dX2_init_40 rfl ?_
  refine g_iast dX2_init_41 (y_at yk75 (r := 43) (c := (20, 28)) (by decide +kernel)) (by exact vp_in_iff.mpr (by decide)) ?_
  refine g_fold (w' := (y76 Ls xs)) (by rw [show (27 : Int32).toNatClampNeg = 27 by decide]; rfl) ?_
  refine g_vret dX2_init_42 rfl ⟨rfl, ?_⟩
  exact hk
def y77 (Ls : Nat) (xs : Nat → Int32) : gx_W := s_r (y76 Ls xs) 39 0 (some 43)
theorem yk77 {Ls : Nat} {xs : Nat → Int32} : (y77 Ls xs).1 = (30, Ls) :: klW.take 44 := y_s_r (yk76 (Ls := Ls) (xs := xs)) rfl
set_option maxHeartbeats 1000000 in
theorem c_X7_init_9 {d Ls : Nat} {xs : Nat → Int32} {k : gx_W → Prop} (hd : 2 ≤ d) (hk : k (y77 Ls xs)) : gx_C 5 49 d mX7_init [.ref 39, .ref 32] (y63 Ls xs) (Qv k) := by
  refine gx_C_of' (L := [.ref 39, .ref 32]) (by decide +kernel) rfl (Nat.le_of_ble_eq_true rfl) ?_
  refine g_aload_n dX7_init_0 rfl ?_
  refine g_objInit dX7_init_1 ol_X7_3 oi_1 oi_2 (Nat.le_of_ble_eq_true rfl) rfl (by omega) ?_
  refine g_aload_n dX7_init_4 rfl ?_
  refine g_bipush (v := 6) dX7_init_5 rfl ?_
  refine g_mk_int (w' := (y64 Ls xs)) (r := 40) (N := 6) (y_len yk63 (by decide)) dX7_init_7 rfl rfl (Nat.le_of_ble_eq_true rfl) rfl ?_
  refine g_putr dX7_init_9 fl_X7_9 ft_7_1 rfl (fun _ => ⟨rfl, _, rfl, rfl⟩) (y_at yk64 (r := 38) (c := (7, 0)) (by decide +kernel)) ?_
  refine g_fold (w' := (y65 Ls xs)) rfl ?_
  refine g_aload_n dX7_init_12 rfl ?_
  refine g_bipush (v := 6) dX7_init_13 rfl ?_
  refine g_mk_int (w' := (y66 Ls xs)) (r := 41) (N := 6) (y_len yk65 (by decide)) dX7_init_15 rfl rfl (Nat.le_of_ble_eq_true rfl) rfl ?_
  refine g_putr dX7_init_17 fl_X7_15 ft_7_2 rfl (fun _ => ⟨rfl, _, rfl, rfl⟩) (y_at yk66 (r := 38) (c := (7, 0)) (by decide +kernel)) ?_
  refine g_fold (w' := (y67 Ls xs)) rfl ?_
  refine g_aload_n dX7_init_20 rfl ?_
  refine g_bipush (v := 6) dX7_init_21 rfl ?_
  refine g_mk_int (w' := (y68 Ls xs)) (r := 42) (N := 6) (y_len yk67 (by decide)) dX7_init_23 rfl rfl (Nat.le_of_ble_eq_true rfl) rfl ?_
  refine g_putr dX7_init_25 fl_X7_18 ft_7_3 rfl (fun _ => ⟨rfl, _, rfl, rfl⟩) (y_at yk68 (r := 38) (c := (7, 0)) (by decide +kernel)) ?_
  refine g_fold (w' := (y69 Ls xs)) rfl ?_
  refine g_aload_n dX7_init_28 rfl ?_
  refine g_mk (w' := (y70 Ls xs)) (K := 3) (r := 43) (ci := 2) (y_len yk69 (by decide)) dX7_init_29 rfl rfl kl_X7_21 kn_2 ki_2 rfl ?_
  refine g_dup dX7_init_32 rfl ?_
  refine g_aload_n dX7_init_33 rfl ?_
  refine g_cI1 (mc := 1) (ms := 28) dX7_init_34 ml_X7_23 mi_X2_init mn_X2_init rfl rfl (Nat.le_of_ble_eq_true rfl) rfl (by omega) ?_
  refine c_X2_init_10 (Ls := Ls) (xs := xs) (by omega) ?_
  refine g_putr dX7_init_37 fl_X7_26 ft_7_0 rfl (fun _ => ⟨rfl, _, rfl, rfl⟩) (y_at yk76 (r := 38) (c := (7, 0)) (by decide +kernel)) ?_
  refine g_fold (w' := (y77 Ls xs)) rfl ?_
  refine g_vret dX7_init_40 rfl ⟨rfl, ?_⟩
  exact hk
def y78 (Ls : Nat) (xs : Nat → Int32) : gx_W := s_r (y77 Ls xs) 6 1 (some 39)
theorem yk78 {Ls : Nat} {xs : Nat → Int32} : (y78 Ls xs).1 = (30, Ls) :: klW.take 44 := y_s_r (yk77 (Ls := Ls) (xs := xs)) rfl
def y79 (Ls : Nat) (xs : Nat → Int32) : gx_W := s_a (y78 Ls xs) 21 (va_up (w_a (y78 Ls xs) 21) (4) (-2))
theorem yk79 {Ls : Nat} {xs : Nat → Int32} : (y79 Ls xs).1 = (30, Ls) :: klW.take 44 := y_s_a (yk78 (Ls := Ls) (xs := xs)) rfl
def y80 (Ls : Nat) (xs : Nat → Int32) : gx_W := a_n (y79 Ls xs) 45 (5, 0)
theorem yk80 {Ls : Nat} {xs : Nat → Int32} : (y80 Ls xs).1 = (30, Ls) :: klW.take 45 := y_app (yk79 (Ls := Ls) (xs := xs)) (by decide +kernel) rfl
def y81 (Ls : Nat) (xs : Nat → Int32) : gx_W := a_n (y80 Ls xs) 46 (23, 60)
theorem yk81 {Ls : Nat} {xs : Nat → Int32} : (y81 Ls xs).1 = (30, Ls) :: klW.take 46 := y_app (yk80 (Ls := Ls) (xs := xs)) (by decide +kernel) rfl
def y82 (Ls : Nat) (xs : Nat → Int32) : gx_W := s_r (y81 Ls xs) 45 0 (some 46)
theorem yk82 {Ls : Nat} {xs : Nat → Int32} : (y82 Ls xs).1 = (30, Ls) :: klW.take 46 := y_s_r (yk81 (Ls := Ls) (xs := xs)) rfl
set_option maxHeartbeats 1000000 in
theorem c_X5_init_11 {d Ls : Nat} {xs : Nat → Int32} {k : gx_W → Prop} (hd : 1 ≤ d) (hk : k (y82 Ls xs)) : gx_C 1 60 d mX5_init [.ref 45] (y80 Ls xs) (Qv k) := by
  refine gx_C_of' (L := [.ref 45]) (by decide +kernel) rfl (Nat.le_of_ble_eq_true rfl) ?_
  refine g_aload_n dX5_init_0 rfl ?_
  refine g_objInit dX5_init_1 ol_X5_3 oi_1 oi_2 (Nat.le_of_ble_eq_true rfl) rfl (by omega) ?_
  refine g_aload_n dX5_init_4 rfl ?_
  refine g_bipush (v := 60) dX5_init_5 rfl ?_
  refine g_mk_long (w' := (y81 Ls xs)) (r := 46) (N := 60) (y_len yk80 (by decide)) dX5_init_7 rfl rfl (Nat.le_of_ble_eq_true rfl) rfl ?_
  refine g_putr dX5_init_9 fl_X5_9 ft_5_0 rfl (fun _ => ⟨rfl, _, rfl, rfl⟩) (y_at yk81 (r := 44) (c := (5, 0)) (by decide +kernel)) ?_
  refine g_fold (w' := (y82 Ls xs)) rfl ?_
  refine g_vret dX5_init_12 rfl ⟨rfl, ?_⟩
  exact hk
def y83 (Ls : Nat) (xs : Nat → Int32) : gx_W := s_q (y82 Ls xs) 20 (va_up (w_q (y82 Ls xs) 20) (0) (some 45))
theorem yk83 {Ls : Nat} {xs : Nat → Int32} : (y83 Ls xs).1 = (30, Ls) :: klW.take 46 := y_s_q (yk82 (Ls := Ls) (xs := xs)) rfl
def y84 (Ls : Nat) (xs : Nat → Int32) : gx_W := a_n (y83 Ls xs) 47 (5, 0)
theorem yk84 {Ls : Nat} {xs : Nat → Int32} : (y84 Ls xs).1 = (30, Ls) :: klW.take 47 := y_app (yk83 (Ls := Ls) (xs := xs)) (by decide +kernel) rfl
def y85 (Ls : Nat) (xs : Nat → Int32) : gx_W := a_n (y84 Ls xs) 48 (23, 60)
theorem yk85 {Ls : Nat} {xs : Nat → Int32} : (y85 Ls xs).1 = (30, Ls) :: klW.take 48 := y_app (yk84 (Ls := Ls) (xs := xs)) (by decide +kernel) rfl
def y86 (Ls : Nat) (xs : Nat → Int32) : gx_W := s_r (y85 Ls xs) 47 0 (some 48)
theorem yk86 {Ls : Nat} {xs : Nat → Int32} : (y86 Ls xs).1 = (30, Ls) :: klW.take 48 := y_s_r (yk85 (Ls := Ls) (xs := xs)) rfl
set_option maxHeartbeats 1000000 in
theorem c_X5_init_12 {d Ls : Nat} {xs : Nat → Int32} {k : gx_W → Prop} (hd : 1 ≤ d) (hk : k (y86 Ls xs)) : gx_C 1 60 d mX5_init [.ref 47] (y84 Ls xs) (Qv k) := by
  refine gx_C_of' (L := [.ref 47]) (by decide +kernel) rfl (Nat.le_of_ble_eq_true rfl) ?_
  refine g_aload_n dX5_init_0 rfl ?_
  refine g_objInit dX5_init_1 ol_X5_3 oi_1 oi_2 (Nat.le_of_ble_eq_true rfl) rfl (by omega) ?_
  refine g_aload_n dX5_init_4 rfl ?_
  refine g_bipush (v := 60) dX5_init_5 rfl ?_
  refine g_mk_long (w' := (y85 Ls xs)) (r := 48) (N := 60) (y_len yk84 (by decide)) dX5_init_7 rfl rfl (Nat.le_of_ble_eq_true rfl) rfl ?_
  refine g_putr dX5_init_9 fl_X5_9 ft_5_0 rfl (fun _ => ⟨rfl, _, rfl, rfl⟩) (y_at yk85 (r := 46) (c := (5, 0)) (by decide +kernel)) ?_
  refine g_fold (w' := (y86 Ls xs)) rfl ?_
  refine g_vret dX5_init_12 rfl ⟨rfl, ?_⟩
  exact hk
def y87 (Ls : Nat) (xs : Nat → Int32) : gx_W := s_q (y86 Ls xs) 20 (va_up (w_q (y86 Ls xs) 20) (1) (some 47))
theorem yk87 {Ls : Nat} {xs : Nat → Int32} : (y87 Ls xs).1 = (30, Ls) :: klW.take 48 := y_s_q (yk86 (Ls := Ls) (xs := xs)) rfl
def y88 (Ls : Nat) (xs : Nat → Int32) : gx_W := a_n (y87 Ls xs) 49 (5, 0)
theorem yk88 {Ls : Nat} {xs : Nat → Int32} : (y88 Ls xs).1 = (30, Ls) :: klW.take 49 := y_app (yk87 (Ls := Ls) (xs := xs)) (by decide +kernel) rfl
def y89 (Ls : Nat) (xs : Nat → Int32) : gx_W := a_n (y88 Ls xs) 50 (23, 60)
theorem yk89 {Ls : Nat} {xs : Nat → Int32} : (y89 Ls xs).1 = (30, Ls) :: klW.take 50 := y_app (yk88 (Ls := Ls) (xs := xs)) (by decide +kernel) rfl
def y90 (Ls : Nat) (xs : Nat → Int32) : gx_W := s_r (y89 Ls xs) 49 0 (some 50)
theorem yk90 {Ls : Nat} {xs : Nat → Int32} : (y90 Ls xs).1 = (30, Ls) :: klW.take 50 := y_s_r (yk89 (Ls := Ls) (xs := xs)) rfl
set_option maxHeartbeats 1000000 in
theorem c_X5_init_13 {d Ls : Nat} {xs : Nat → Int32} {k : gx_W → Prop} (hd : 1 ≤ d) (hk : k (y90 Ls xs)) : gx_C 1 60 d mX5_init [.ref 49] (y88 Ls xs) (Qv k) := by
  refine gx_C_of' (L := [.ref 49]) (by decide +kernel) rfl (Nat.le_of_ble_eq_true rfl) ?_
  refine g_aload_n dX5_init_0 rfl ?_
  refine g_objInit dX5_init_1 ol_X5_3 oi_1 oi_2 (Nat.le_of_ble_eq_true rfl) rfl (by omega) ?_
  refine g_aload_n dX5_init_4 rfl ?_
  refine g_bipush (v := 60) dX5_init_5 rfl ?_
  refine g_mk_long (w' := (y89 Ls xs)) (r := 50) (N := 60) (y_len yk88 (by decide)) dX5_init_7 rfl rfl (Nat.le_of_ble_eq_true rfl) rfl ?_
  refine g_putr dX5_init_9 fl_X5_9 ft_5_0 rfl (fun _ => ⟨rfl, _, rfl, rfl⟩) (y_at yk89 (r := 48) (c := (5, 0)) (by decide +kernel)) ?_
  refine g_fold (w' := (y90 Ls xs)) rfl ?_
  refine g_vret dX5_init_12 rfl ⟨rfl, ?_⟩
  exact hk
def y91 (Ls : Nat) (xs : Nat → Int32) : gx_W := s_q (y90 Ls xs) 20 (va_up (w_q (y90 Ls xs) 20) (2) (some 49))
theorem yk91 {Ls : Nat} {xs : Nat → Int32} : (y91 Ls xs).1 = (30, Ls) :: klW.take 50 := y_s_q (yk90 (Ls := Ls) (xs := xs)) rfl
def y92 (Ls : Nat) (xs : Nat → Int32) : gx_W := a_n (y91 Ls xs) 51 (5, 0)
theorem yk92 {Ls : Nat} {xs : Nat → Int32} : (y92 Ls xs).1 = (30, Ls) :: klW.take 51 := y_app (yk91 (Ls := Ls) (xs := xs)) (by decide +kernel) rfl
def y93 (Ls : Nat) (xs : Nat → Int32) : gx_W := a_n (y92 Ls xs) 52 (23, 60)
theorem yk93 {Ls : Nat} {xs : Nat → Int32} : (y93 Ls xs).1 = (30, Ls) :: klW.take 52 := y_app (yk92 (Ls := Ls) (xs := xs)) (by decide +kernel) rfl
def y94 (Ls : Nat) (xs : Nat → Int32) : gx_W := s_r (y93 Ls xs) 51 0 (some 52)
theorem yk94 {Ls : Nat} {xs : Nat → Int32} : (y94 Ls xs).1 = (30, Ls) :: klW.take 52 := y_s_r (yk93 (Ls := Ls) (xs := xs)) rfl
set_option maxHeartbeats 1000000 in
theorem c_X5_init_14 {d Ls : Nat} {xs : Nat → Int32} {k : gx_W → Prop} (hd : 1 ≤ d) (hk : k (y94 Ls xs)) : gx_C 1 60 d mX5_init [.ref 51] (y92 Ls xs) (Qv k) := by
  refine gx_C_of' (L := [.ref 51]) (by decide +kernel) rfl (Nat.le_of_ble_eq_true rfl) ?_
  refine g_aload_n dX5_init_0 rfl ?_
  refine g_objInit dX5_init_1 ol_X5_3 oi_1 oi_2 (Nat.le_of_ble_eq_true rfl) rfl (by omega) ?_
  refine g_aload_n dX5_init_4 rfl ?_
  refine g_bipush (v := 60) dX5_init_5 rfl ?_
  refine g_mk_long (w' := (y93 Ls xs)) (r := 52) (N := 60) (y_len yk92 (by decide)) dX5_init_7 rfl rfl (Nat.le_of_ble_eq_true rfl) rfl ?_
  refine g_putr dX5_init_9 fl_X5_9 ft_5_0 rfl (fun _ => ⟨rfl, _, rfl, rfl⟩) (y_at yk93 (r := 50) (c := (5, 0)) (by decide +kernel)) ?_
  refine g_fold (w' := (y94 Ls xs)) rfl ?_
  refine g_vret dX5_init_12 rfl ⟨rfl, ?_⟩
  exact hk
def y95 (Ls : Nat) (xs : Nat → Int32) : gx_W := s_q (y94 Ls xs) 20 (va_up (w_q (y94 Ls xs) 20) (3) (some 51))
theorem yk95 {Ls : Nat} {xs : Nat → Int32} : (y95 Ls xs).1 = (30, Ls) :: klW.take 52 := y_s_q (yk94 (Ls := Ls) (xs := xs)) rfl
def y96 (Ls : Nat) (xs : Nat → Int32) : gx_W := a_n (y95 Ls xs) 53 (5, 0)
theorem yk96 {Ls : Nat} {xs : Nat → Int32} : (y96 Ls xs).1 = (30, Ls) :: klW.take 53 := y_app (yk95 (Ls := Ls) (xs := xs)) (by decide +kernel) rfl
def y97 (Ls : Nat) (xs : Nat → Int32) : gx_W := a_n (y96 Ls xs) 54 (23, 60)
theorem yk97 {Ls : Nat} {xs : Nat → Int32} : (y97 Ls xs).1 = (30, Ls) :: klW.take 54 := y_app (yk96 (Ls := Ls) (xs := xs)) (by decide +kernel) rfl
def y98 (Ls : Nat) (xs : Nat → Int32) : gx_W := s_r (y97 Ls xs) 53 0 (some 54)
theorem yk98 {Ls : Nat} {xs : Nat → Int32} : (y98 Ls xs).1 = (30, Ls) :: klW.take 54 := y_s_r (yk97 (Ls := Ls) (xs := xs)) rfl
set_option maxHeartbeats 1000000 in
theorem c_X5_init_15 {d Ls : Nat} {xs : Nat → Int32} {k : gx_W → Prop} (hd : 1 ≤ d) (hk : k (y98 Ls xs)) : gx_C 1 60 d mX5_init [.ref 53] (y96 Ls xs) (Qv k) := by
  refine gx_C_of' (L := [.ref 53]) (by decide +kernel) rfl (Nat.le_of_ble_eq_true rfl) ?_
  refine g_aload_n dX5_init_0 rfl ?_
  refine g_objInit dX5_init_1 ol_X5_3 oi_1 oi_2 (Nat.le_of_ble_eq_true rfl) rfl (by omega) ?_
  refine g_aload_n dX5_init_4 rfl ?_
  refine g_bipush (v := 60) dX5_init_5 rfl ?_
  refine g_mk_long (w' := (y97 Ls xs)) (r := 54) (N := 60) (y_len yk96 (by decide)) dX5_init_7 rfl rfl (Nat.le_of_ble_eq_true rfl) rfl ?_
  refine g_putr dX5_init_9 fl_X5_9 ft_5_0 rfl (fun _ => ⟨rfl, _, rfl, rfl⟩) (y_at yk97 (r := 52) (c := (5, 0)) (by decide +kernel)) ?_
  refine g_fold (w' := (y98 Ls xs)) rfl ?_
  refine g_vret dX5_init_12 rfl ⟨rfl, ?_⟩
  exact hk
def y99 (Ls : Nat) (xs : Nat → Int32) : gx_W := s_q (y98 Ls xs) 20 (va_up (w_q (y98 Ls xs) 20) (4) (some 53))
theorem yk99 {Ls : Nat} {xs : Nat → Int32} : (y99 Ls xs).1 = (30, Ls) :: klW.take 54 := y_s_q (yk98 (Ls := Ls) (xs := xs)) rfl
def y100 (Ls : Nat) (xs : Nat → Int32) : gx_W := a_n (y99 Ls xs) 55 (5, 0)
theorem yk100 {Ls : Nat} {xs : Nat → Int32} : (y100 Ls xs).1 = (30, Ls) :: klW.take 55 := y_app (yk99 (Ls := Ls) (xs := xs)) (by decide +kernel) rfl
def y101 (Ls : Nat) (xs : Nat → Int32) : gx_W := a_n (y100 Ls xs) 56 (23, 60)
theorem yk101 {Ls : Nat} {xs : Nat → Int32} : (y101 Ls xs).1 = (30, Ls) :: klW.take 56 := y_app (yk100 (Ls := Ls) (xs := xs)) (by decide +kernel) rfl
def y102 (Ls : Nat) (xs : Nat → Int32) : gx_W := s_r (y101 Ls xs) 55 0 (some 56)
theorem yk102 {Ls : Nat} {xs : Nat → Int32} : (y102 Ls xs).1 = (30, Ls) :: klW.take 56 := y_s_r (yk101 (Ls := Ls) (xs := xs)) rfl
set_option maxHeartbeats 1000000 in
theorem c_X5_init_16 {d Ls : Nat} {xs : Nat → Int32} {k : gx_W → Prop} (hd : 1 ≤ d) (hk : k (y102 Ls xs)) : gx_C 1 60 d mX5_init [.ref 55] (y100 Ls xs) (Qv k) := by
  refine gx_C_of' (L := [.ref 55]) (by decide +kernel) rfl (Nat.le_of_ble_eq_true rfl) ?_
  refine g_aload_n dX5_init_0 rfl ?_
  refine g_objInit dX5_init_1 ol_X5_3 oi_1 oi_2 (Nat.le_of_ble_eq_true rfl) rfl (by omega) ?_
  refine g_aload_n dX5_init_4 rfl ?_
  refine g_bipush (v := 60) dX5_init_5 rfl ?_
  refine g_mk_long (w' := (y101 Ls xs)) (r := 56) (N := 60) (y_len yk100 (by decide)) dX5_init_7 rfl rfl (Nat.le_of_ble_eq_true rfl) rfl ?_
  refine g_putr dX5_init_9 fl_X5_9 ft_5_0 rfl (fun _ => ⟨rfl, _, rfl, rfl⟩) (y_at yk101 (r := 54) (c := (5, 0)) (by decide +kernel)) ?_
  refine g_fold (w' := (y102 Ls xs)) rfl ?_
  refine g_vret dX5_init_12 rfl ⟨rfl, ?_⟩
  exact hk
def y103 (Ls : Nat) (xs : Nat → Int32) : gx_W := s_q (y102 Ls xs) 20 (va_up (w_q (y102 Ls xs) 20) (5) (some 55))
theorem yk103 {Ls : Nat} {xs : Nat → Int32} : (y103 Ls xs).1 = (30, Ls) :: klW.take 56 := y_s_q (yk102 (Ls := Ls) (xs := xs)) rfl
set_option maxHeartbeats 1000000 in
theorem c_X9_init_1 {d Ls : Nat} {xs : Nat → Int32} {k : gx_W → Prop} (hd : 3 ≤ d) (hM : gM) (hk : k (y103 Ls xs)) : gx_C 50 1558 d mX9_init [.ref 6] (y1 Ls xs) (Qv k) := by
  refine gx_C_of' (L := [.ref 6, .retAddr 0, .retAddr 0]) (by decide +kernel) rfl (Nat.le_of_ble_eq_true rfl) ?_
  refine g_aload_n dX9_init_0 rfl ?_
  refine g_objInit dX9_init_1 ol_X9_1 oi_1 oi_2 (Nat.le_of_ble_eq_true rfl) rfl (by omega) ?_
  refine g_aload_n dX9_init_4 rfl ?_
  refine g_mk (w' := (y2 Ls xs)) (K := 3) (r := 7) (ci := 6) (y_len yk1 (by decide)) dX9_init_5 rfl rfl kl_X9_7 kn_6 ki_6 rfl ?_
  refine g_dup dX9_init_8 rfl ?_
  refine g_cI0 (mc := 1) (ms := 120) dX9_init_9 ml_X9_9 mi_X6_init mn_X6_init rfl rfl (Nat.le_of_ble_eq_true rfl) rfl (by omega) ?_
  refine c_X6_init_2 (Ls := Ls) (xs := xs) (by omega) ?_
  refine g_putr dX9_init_12 fl_X9_10 ft_9_2 rfl (fun _ => ⟨rfl, _, rfl, rfl⟩) (y_at yk4 (r := 5) (c := (9, 0)) (by decide +kernel)) ?_
  refine g_fold (w' := (y5 Ls xs)) rfl ?_
  refine g_aload_n dX9_init_15 rfl ?_
  refine g_mk (w' := (y6 Ls xs)) (K := 6) (r := 9) (ci := 1) (y_len yk5 (by decide)) dX9_init_16 rfl rfl kl_X9_16 kn_1 ki_1 rfl ?_
  refine g_dup dX9_init_19 rfl ?_
  refine g_cI0 (mc := 4) (ms := 160) dX9_init_20 ml_X9_18 mi_X1_init mn_X1_init rfl rfl (Nat.le_of_ble_eq_true rfl) rfl (by omega) ?_
  refine c_X1_init_3 (Ls := Ls) (xs := xs) (by omega) ?_
  refine g_putr dX9_init_23 fl_X9_19 ft_9_3 rfl (fun _ => ⟨rfl, _, rfl, rfl⟩) (y_at yk14 (r := 5) (c := (9, 0)) (by decide +kernel)) ?_
  refine g_fold (w' := (y15 Ls xs)) rfl ?_
  refine g_aload_n dX9_init_26 rfl ?_
  refine g_mk (w' := (y16 Ls xs)) (K := 4) (r := 14) (ci := 3) (y_len yk15 (by decide)) dX9_init_27 rfl rfl kl_X9_23 kn_3 ki_3 rfl ?_
  refine g_dup dX9_init_30 rfl ?_
  refine g_cI0 (mc := 2) (ms := 11) dX9_init_31 ml_X9_25 mi_X3_init mn_X3_init rfl rfl (Nat.le_of_ble_eq_true rfl) rfl (by omega) ?_
  refine c_X3_init_4 (Ls := Ls) (xs := xs) (by omega) ?_
  refine g_putr dX9_init_34 fl_X9_26 ft_9_4 rfl (fun _ => ⟨rfl, _, rfl, rfl⟩) (y_at yk20 (r := 5) (c := (9, 0)) (by decide +kernel)) ?_
  refine g_fold (w' := (y21 Ls xs)) rfl ?_
  refine g_aload_n dX9_init_37 rfl ?_
  refine g_mk (w' := (y22 Ls xs)) (K := 4) (r := 17) (ci := 0) (y_len yk21 (by decide)) dX9_init_38 rfl rfl kl_X9_30 kn_0 ki_0 rfl ?_
  refine g_dup dX9_init_41 rfl ?_
  refine g_cI0 (mc := 2) (ms := 74) dX9_init_42 ml_X9_32 mi_X0_init mn_X0_init rfl rfl (Nat.le_of_ble_eq_true rfl) rfl (by omega) ?_
  refine c_X0_init_5 (Ls := Ls) (xs := xs) (by omega) ?_
  refine g_putr dX9_init_45 fl_X9_33 ft_9_5 rfl (fun _ => ⟨rfl, _, rfl, rfl⟩) (y_at yk26 (r := 5) (c := (9, 0)) (by decide +kernel)) ?_
  refine g_fold (w' := (y27 Ls xs)) rfl ?_
  refine g_aload_n dX9_init_48 rfl ?_
  refine g_bipush (v := 6) dX9_init_49 rfl ?_
  refine g_mkq (w' := (y28 Ls xs)) (r := 20) (N := 6) (y_len yk27 (by decide)) dX9_init_51 kl_X9_37 rfl (Nat.le_of_ble_eq_true rfl) rfl ?_
  refine g_putr dX9_init_54 fl_X9_39 ft_9_6 rfl (fun _ => ⟨rfl, _, rfl, rfl⟩) (y_at yk28 (r := 5) (c := (9, 0)) (by decide +kernel)) ?_
  refine g_fold (w' := (y29 Ls xs)) rfl ?_
  refine g_aload_n dX9_init_57 rfl ?_
  refine g_iconst (v := 5) dX9_init_58 rfl ?_
  refine g_mk_int (w' := (y30 Ls xs)) (r := 21) (N := 5) (y_len yk29 (by decide)) dX9_init_59 rfl rfl (Nat.le_of_ble_eq_true rfl) rfl ?_
  refine g_putr dX9_init_61 fl_X9_43 ft_9_7 rfl (fun _ => ⟨rfl, _, rfl, rfl⟩) (y_at yk30 (r := 5) (c := (9, 0)) (by decide +kernel)) ?_
  refine g_fold (w' := (y31 Ls xs)) rfl ?_
  refine g_aload_n dX9_init_64 rfl ?_
  refine g_iconst (v := 3) dX9_init_65 rfl ?_
  refine g_mk_int (w' := (y32 Ls xs)) (r := 22) (N := 3) (y_len yk31 (by decide)) dX9_init_66 rfl rfl (Nat.le_of_ble_eq_true rfl) rfl ?_
  refine g_putr dX9_init_68 fl_X9_47 ft_9_8 rfl (fun _ => ⟨rfl, _, rfl, rfl⟩) (y_at yk32 (r := 5) (c := (9, 0)) (by decide +kernel)) ?_
  refine g_fold (w' := (y33 Ls xs)) rfl ?_
  refine g_aload_n dX9_init_71 rfl ?_
  refine g_iconst (v := 3) dX9_init_72 rfl ?_
  refine g_bipush (v := 6) dX9_init_73 rfl ?_
  refine hM (w' := (y34 Ls xs)) (r := 23) (y_len yk33 (by decide)) dX9_init_75 kl_X9_50 rfl ?_
  refine g_putr dX9_init_79 fl_X9_52 ft_9_9 rfl (fun _ => ⟨rfl, _, rfl, rfl⟩) (y_at yk34 (r := 5) (c := (9, 0)) (by decide +kernel)) ?_
  refine g_fold (w' := (y35 Ls xs)) rfl ?_
  refine g_aload_n dX9_init_82 rfl ?_
  refine g_mk (w' := (y36 Ls xs)) (K := 6) (r := 27) (ci := 4) (y_len yk35 (by decide)) dX9_init_83 rfl rfl kl_X9_55 kn_4 ki_4 rfl ?_
  refine g_dup dX9_init_86 rfl ?_
  refine g_cI0 (mc := 4) (ms := 326) dX9_init_87 ml_X9_57 mi_X4_init mn_X4_init rfl rfl (Nat.le_of_ble_eq_true rfl) rfl (by omega) ?_
  refine c_X4_init_6 (Ls := Ls) (xs := xs) (by omega) ?_
  refine g_putr dX9_init_90 fl_X9_58 ft_9_10 rfl (fun h => by cases h) (y_at yk44 (r := 5) (c := (9, 0)) (by decide +kernel)) ?_
  refine g_fold (w' := (y45 Ls xs)) rfl ?_
  refine g_mk (w' := (y46 Ls xs)) (K := 6) (r := 32) (ci := 4) (y_len yk45 (by decide)) dX9_init_93 rfl rfl kl_X9_55 kn_4 ki_4 rfl ?_
  refine g_dup dX9_init_96 rfl ?_
  refine g_cI0 (mc := 4) (ms := 326) dX9_init_97 ml_X9_57 mi_X4_init mn_X4_init rfl rfl (Nat.le_of_ble_eq_true rfl) rfl (by omega) ?_
  refine c_X4_init_7 (Ls := Ls) (xs := xs) (by omega) ?_
  refine g_astore_n dX9_init_100 (Nat.le_of_ble_eq_true rfl) rfl ?_
  refine g_aload_n dX9_init_101 rfl ?_
  refine g_mk (w' := (y55 Ls xs)) (K := 3) (r := 37) (ci := 2) (y_len yk54 (by decide)) dX9_init_102 rfl rfl kl_X9_62 kn_2 ki_2 rfl ?_
  refine g_dup dX9_init_105 rfl ?_
  refine g_aload_n dX9_init_106 rfl ?_
  refine g_cI1 (mc := 1) (ms := 28) dX9_init_107 ml_X9_64 mi_X2_init mn_X2_init rfl rfl (Nat.le_of_ble_eq_true rfl) rfl (by omega) ?_
  refine c_X2_init_8 (Ls := Ls) (xs := xs) (by omega) ?_
  refine g_putr dX9_init_110 fl_X9_67 ft_9_0 rfl (fun _ => ⟨rfl, _, rfl, rfl⟩) (y_at yk61 (r := 5) (c := (9, 0)) (by decide +kernel)) ?_
  refine g_fold (w' := (y62 Ls xs)) rfl ?_
  refine g_aload_n dX9_init_113 rfl ?_
  refine g_mk (w' := (y63 Ls xs)) (K := 7) (r := 39) (ci := 7) (y_len yk62 (by decide)) dX9_init_114 rfl rfl kl_X9_71 kn_7 ki_7 rfl ?_
  refine g_dup dX9_init_117 rfl ?_
  refine g_aload_n dX9_init_118 rfl ?_
  refine g_cI1 (mc := 5) (ms := 49) dX9_init_119 ml_X9_73 mi_X7_init mn_X7_init rfl rfl (Nat.le_of_ble_eq_true rfl) rfl (by omega) ?_
  refine c_X7_init_9 (Ls := Ls) (xs := xs) (by omega) ?_
  refine g_putr dX9_init_122 fl_X9_74 ft_9_1 rfl (fun _ => ⟨rfl, _, rfl, rfl⟩) (y_at yk77 (r := 5) (c := (9, 0)) (by decide +kernel)) ?_
  refine g_fold (w' := (y78 Ls xs)) rfl ?_
  refine g_aload_n dX9_init_125 rfl ?_
  refine g_getr (a := 21) dX9_init_126 fl_X9_43 (y_at yk78 (r := 5) (c := (9, 0)) (by decide +kernel)) rfl ?_
  refine g_iconst (v := 4) dX9_init_129 rfl ?_
  refine g_bipush (v := -2) dX9_init_130 rfl ?_
  refine g_iast dX9_init_132 (y_at yk78 (r := 20) (c := (20, 5)) (by decide +kernel)) (by exact vp_in_iff.mpr (by decide)) ?_
  refine g_fold (w' := (y79 Ls xs)) (by rw [show (4 : Int32).toNatClampNeg = 4 by decide]; rfl) ?_
  refine g_iconst (v := 0) dX9_init_133 rfl ?_
  refine g_istore_n dX9_init_134 (Nat.le_of_ble_eq_true rfl) rfl ?_
  refine g_iload_n dX9_init_135 rfl ?_
  refine g_bipush (v := 6) dX9_init_136 rfl ?_
  refine g_icmp_ge (tgt := 160) dX9_init_138 (by decide) (fun q => absurd q (by decide)) (fun _ => ?_)
  refine g_aload_n dX9_init_141 rfl ?_
  refine g_getr (a := 20) dX9_init_142 fl_X9_39 (y_at yk79 (r := 5) (c := (9, 0)) (by decide +kernel)) rfl ?_
  refine g_iload_n dX9_init_145 rfl ?_
  refine g_mk (w' := (y80 Ls xs)) (K := 5) (r := 45) (ci := 5) (y_len yk79 (by decide)) dX9_init_146 rfl rfl kl_X9_37 kn_5 ki_5 rfl ?_
  refine g_dup dX9_init_149 rfl ?_
  refine g_cI0 (mc := 1) (ms := 60) dX9_init_150 ml_X9_78 mi_X5_init mn_X5_init rfl rfl (Nat.le_of_ble_eq_true rfl) rfl (by omega) ?_
  refine c_X5_init_11 (Ls := Ls) (xs := xs) (by omega) ?_
  refine g_aast dX9_init_153 (y_at yk82 (r := 19) (c := (24, 6)) (by decide +kernel)) (y_at yk82 (r := 44) (c := (5, 0)) (by decide +kernel)) (by exact vp_in_iff.mpr (by decide)) ?_
  refine g_fold (w' := (y83 Ls xs)) (by rw [show Int32.toNatClampNeg (0 : Int32) = 0 by decide]; rfl) ?_
  refine g_iinc dX9_init_154 rfl rfl ?_
  refine g_goto (tgt := 135) dX9_init_157 (by decide) ?_
  refine g_iload_n dX9_init_135 rfl ?_
  refine g_bipush (v := 6) dX9_init_136 rfl ?_
  refine g_icmp_ge (tgt := 160) dX9_init_138 (by decide) (fun q => absurd q (by decide)) (fun _ => ?_)
  refine g_aload_n dX9_init_141 rfl ?_
  refine g_getr (a := 20) dX9_init_142 fl_X9_39 (y_at yk83 (r := 5) (c := (9, 0)) (by decide +kernel)) rfl ?_
  refine g_iload_n dX9_init_145 rfl ?_
  refine g_mk (w' := (y84 Ls xs)) (K := 5) (r := 47) (ci := 5) (y_len yk83 (by decide)) dX9_init_146 rfl rfl kl_X9_37 kn_5 ki_5 rfl ?_
  refine g_dup dX9_init_149 rfl ?_
  refine g_cI0 (mc := 1) (ms := 60) dX9_init_150 ml_X9_78 mi_X5_init mn_X5_init rfl rfl (Nat.le_of_ble_eq_true rfl) rfl (by omega) ?_
  refine c_X5_init_12 (Ls := Ls) (xs := xs) (by omega) ?_
  refine g_aast dX9_init_153 (y_at yk86 (r := 19) (c := (24, 6)) (by decide +kernel)) (y_at yk86 (r := 46) (c := (5, 0)) (by decide +kernel)) (by exact vp_in_iff.mpr (by decide)) ?_
  refine g_fold (w' := (y87 Ls xs)) (by rw [show Int32.toNatClampNeg ((0 : Int32) + Int32.ofInt 1) = 1 by decide]; rfl) ?_
  refine g_iinc dX9_init_154 rfl rfl ?_
  refine g_goto (tgt := 135) dX9_init_157 (by decide) ?_
  refine g_iload_n dX9_init_135 rfl ?_
  refine g_bipush (v := 6) dX9_init_136 rfl ?_
  refine g_icmp_ge (tgt := 160) dX9_init_138 (by decide) (fun q => absurd q (by decide)) (fun _ => ?_)
  refine g_aload_n dX9_init_141 rfl ?_
  refine g_getr (a := 20) dX9_init_142 fl_X9_39 (y_at yk87 (r := 5) (c := (9, 0)) (by decide +kernel)) rfl ?_
  refine g_iload_n dX9_init_145 rfl ?_
  refine g_mk (w' := (y88 Ls xs)) (K := 5) (r := 49) (ci := 5) (y_len yk87 (by decide)) dX9_init_146 rfl rfl kl_X9_37 kn_5 ki_5 rfl ?_
  refine g_dup dX9_init_149 rfl ?_
  refine g_cI0 (mc := 1) (ms := 60) dX9_init_150 ml_X9_78 mi_X5_init mn_X5_init rfl rfl (Nat.le_of_ble_eq_true rfl) rfl (by omega) ?_
  refine c_X5_init_13 (Ls := Ls) (xs := xs) (by omega) ?_
  refine g_aast dX9_init_153 (y_at yk90 (r := 19) (c := (24, 6)) (by decide +kernel)) (y_at yk90 (r := 48) (c := (5, 0)) (by decide +kernel)) (by exact vp_in_iff.mpr (by decide)) ?_
  refine g_fold (w' := (y91 Ls xs)) (by rw [show Int32.toNatClampNeg (((0 : Int32) + Int32.ofInt 1) + Int32.ofInt 1) = 2 by decide]; rfl) ?_
  refine g_iinc dX9_init_154 rfl rfl ?_
  refine g_goto (tgt := 135) dX9_init_157 (by decide) ?_
  refine g_iload_n dX9_init_135 rfl ?_
  refine g_bipush (v := 6) dX9_init_136 rfl ?_
  refine g_icmp_ge (tgt := 160) dX9_init_138 (by decide) (fun q => absurd q (by decide)) (fun _ => ?_)
  refine g_aload_n dX9_init_141 rfl ?_
  refine g_getr (a := 20) dX9_init_142 fl_X9_39 (y_at yk91 (r := 5) (c := (9, 0)) (by decide +kernel)) rfl ?_
  refine g_iload_n dX9_init_145 rfl ?_
  refine g_mk (w' := (y92 Ls xs)) (K := 5) (r := 51) (ci := 5) (y_len yk91 (by decide)) dX9_init_146 rfl rfl kl_X9_37 kn_5 ki_5 rfl ?_
  refine g_dup dX9_init_149 rfl ?_
  refine g_cI0 (mc := 1) (ms := 60) dX9_init_150 ml_X9_78 mi_X5_init mn_X5_init rfl rfl (Nat.le_of_ble_eq_true rfl) rfl (by omega) ?_
  refine c_X5_init_14 (Ls := Ls) (xs := xs) (by omega) ?_
  refine g_aast dX9_init_153 (y_at yk94 (r := 19) (c := (24, 6)) (by decide +kernel)) (y_at yk94 (r := 50) (c := (5, 0)) (by decide +kernel)) (by exact vp_in_iff.mpr (by decide)) ?_
  refine g_fold (w' := (y95 Ls xs)) (by rw [show Int32.toNatClampNeg ((((0 : Int32) + Int32.ofInt 1) + Int32.ofInt 1) + Int32.ofInt 1) = 3 by decide]; rfl) ?_
  refine g_iinc dX9_init_154 rfl rfl ?_
  refine g_goto (tgt := 135) dX9_init_157 (by decide) ?_
  refine g_iload_n dX9_init_135 rfl ?_
  refine g_bipush (v := 6) dX9_init_136 rfl ?_
  refine g_icmp_ge (tgt := 160) dX9_init_138 (by decide) (fun q => absurd q (by decide)) (fun _ => ?_)
  refine g_aload_n dX9_init_141 rfl ?_
  refine g_getr (a := 20) dX9_init_142 fl_X9_39 (y_at yk95 (r := 5) (c := (9, 0)) (by decide +kernel)) rfl ?_
  refine g_iload_n dX9_init_145 rfl ?_
  refine g_mk (w' := (y96 Ls xs)) (K := 5) (r := 53) (ci := 5) (y_len yk95 (by decide)) dX9_init_146 rfl rfl kl_X9_37 kn_5 ki_5 rfl ?_
  refine g_dup dX9_init_149 rfl ?_
  refine g_cI0 (mc := 1) (ms := 60) dX9_init_150 ml_X9_78 mi_X5_init mn_X5_init rfl rfl (Nat.le_of_ble_eq_true rfl) rfl (by omega) ?_
  refine c_X5_init_15 (Ls := Ls) (xs := xs) (by omega) ?_
  refine g_aast dX9_init_153 (y_at yk98 (r := 19) (c := (24, 6)) (by decide +kernel)) (y_at yk98 (r := 52) (c := (5, 0)) (by decide +kernel)) (by exact vp_in_iff.mpr (by decide)) ?_
  refine g_fold (w' := (y99 Ls xs)) (by rw [show Int32.toNatClampNeg (((((0 : Int32) + Int32.ofInt 1) + Int32.ofInt 1) + Int32.ofInt 1) + Int32.ofInt 1) = 4 by decide]; rfl) ?_
  refine g_iinc dX9_init_154 rfl rfl ?_
  refine g_goto (tgt := 135) dX9_init_157 (by decide) ?_
  refine g_iload_n dX9_init_135 rfl ?_
  refine g_bipush (v := 6) dX9_init_136 rfl ?_
  refine g_icmp_ge (tgt := 160) dX9_init_138 (by decide) (fun q => absurd q (by decide)) (fun _ => ?_)
  refine g_aload_n dX9_init_141 rfl ?_
  refine g_getr (a := 20) dX9_init_142 fl_X9_39 (y_at yk99 (r := 5) (c := (9, 0)) (by decide +kernel)) rfl ?_
  refine g_iload_n dX9_init_145 rfl ?_
  refine g_mk (w' := (y100 Ls xs)) (K := 5) (r := 55) (ci := 5) (y_len yk99 (by decide)) dX9_init_146 rfl rfl kl_X9_37 kn_5 ki_5 rfl ?_
  refine g_dup dX9_init_149 rfl ?_
  refine g_cI0 (mc := 1) (ms := 60) dX9_init_150 ml_X9_78 mi_X5_init mn_X5_init rfl rfl (Nat.le_of_ble_eq_true rfl) rfl (by omega) ?_
  refine c_X5_init_16 (Ls := Ls) (xs := xs) (by omega) ?_
  refine g_aast dX9_init_153 (y_at yk102 (r := 19) (c := (24, 6)) (by decide +kernel)) (y_at yk102 (r := 54) (c := (5, 0)) (by decide +kernel)) (by exact vp_in_iff.mpr (by decide)) ?_
  refine g_fold (w' := (y103 Ls xs)) (by rw [show Int32.toNatClampNeg ((((((0 : Int32) + Int32.ofInt 1) + Int32.ofInt 1) + Int32.ofInt 1) + Int32.ofInt 1) + Int32.ofInt 1) = 5 by decide]; rfl) ?_
  refine g_iinc dX9_init_154 rfl rfl ?_
  refine g_goto (tgt := 135) dX9_init_157 (by decide) ?_
  refine g_iload_n dX9_init_135 rfl ?_
  refine g_bipush (v := 6) dX9_init_136 rfl ?_
  refine g_icmp_ge (tgt := 160) dX9_init_138 (by decide) (fun _ => ?_) (fun q => absurd q (by decide))
  refine g_vret dX9_init_160 rfl ⟨rfl, ?_⟩
  exact hk
def y104 (Ls : Nat) (xs : Nat → Int32) : gx_W := a_n (y103 Ls xs) 57 (10, 0)
theorem yk104 {Ls : Nat} {xs : Nat → Int32} : (y104 Ls xs).1 = (30, Ls) :: klW.take 57 := y_app (yk103 (Ls := Ls) (xs := xs)) (by decide +kernel) rfl
def y105 (Ls : Nat) (xs : Nat → Int32) : gx_W := a_n (y104 Ls xs) 58 (20, 6)
theorem yk105 {Ls : Nat} {xs : Nat → Int32} : (y105 Ls xs).1 = (30, Ls) :: klW.take 58 := y_app (yk104 (Ls := Ls) (xs := xs)) (by decide +kernel) rfl
def y106 (Ls : Nat) (xs : Nat → Int32) : gx_W := s_r (y105 Ls xs) 57 2 (some 58)
theorem yk106 {Ls : Nat} {xs : Nat → Int32} : (y106 Ls xs).1 = (30, Ls) :: klW.take 58 := y_s_r (yk105 (Ls := Ls) (xs := xs)) rfl
def y107 (Ls : Nat) (xs : Nat → Int32) : gx_W := a_n (y106 Ls xs) 59 (20, 6)
theorem yk107 {Ls : Nat} {xs : Nat → Int32} : (y107 Ls xs).1 = (30, Ls) :: klW.take 59 := y_app (yk106 (Ls := Ls) (xs := xs)) (by decide +kernel) rfl
def y108 (Ls : Nat) (xs : Nat → Int32) : gx_W := s_r (y107 Ls xs) 57 3 (some 59)
theorem yk108 {Ls : Nat} {xs : Nat → Int32} : (y108 Ls xs).1 = (30, Ls) :: klW.take 59 := y_s_r (yk107 (Ls := Ls) (xs := xs)) rfl
def y109 (Ls : Nat) (xs : Nat → Int32) : gx_W := a_n (y108 Ls xs) 60 (20, 6)
theorem yk109 {Ls : Nat} {xs : Nat → Int32} : (y109 Ls xs).1 = (30, Ls) :: klW.take 60 := y_app (yk108 (Ls := Ls) (xs := xs)) (by decide +kernel) rfl
def y110 (Ls : Nat) (xs : Nat → Int32) : gx_W := s_r (y109 Ls xs) 57 4 (some 60)
theorem yk110 {Ls : Nat} {xs : Nat → Int32} : (y110 Ls xs).1 = (30, Ls) :: klW.take 60 := y_s_r (yk109 (Ls := Ls) (xs := xs)) rfl
def y111 (Ls : Nat) (xs : Nat → Int32) : gx_W := a_n (y110 Ls xs) 61 (20, 6)
theorem yk111 {Ls : Nat} {xs : Nat → Int32} : (y111 Ls xs).1 = (30, Ls) :: klW.take 61 := y_app (yk110 (Ls := Ls) (xs := xs)) (by decide +kernel) rfl
def y112 (Ls : Nat) (xs : Nat → Int32) : gx_W := s_r (y111 Ls xs) 57 5 (some 61)
theorem yk112 {Ls : Nat} {xs : Nat → Int32} : (y112 Ls xs).1 = (30, Ls) :: klW.take 61 := y_s_r (yk111 (Ls := Ls) (xs := xs)) rfl
def y113 (Ls : Nat) (xs : Nat → Int32) : gx_W := a_n (y112 Ls xs) 62 (20, 4)
theorem yk113 {Ls : Nat} {xs : Nat → Int32} : (y113 Ls xs).1 = (30, Ls) :: klW.take 62 := y_app (yk112 (Ls := Ls) (xs := xs)) (by decide +kernel) rfl
def y114 (Ls : Nat) (xs : Nat → Int32) : gx_W := s_a (y113 Ls xs) 62 (va_up (w_a (y113 Ls xs) 62) (0) (8))
theorem yk114 {Ls : Nat} {xs : Nat → Int32} : (y114 Ls xs).1 = (30, Ls) :: klW.take 62 := y_s_a (yk113 (Ls := Ls) (xs := xs)) rfl
def y115 (Ls : Nat) (xs : Nat → Int32) : gx_W := s_a (y114 Ls xs) 62 (va_up (w_a (y114 Ls xs) 62) (1) (0))
theorem yk115 {Ls : Nat} {xs : Nat → Int32} : (y115 Ls xs).1 = (30, Ls) :: klW.take 62 := y_s_a (yk114 (Ls := Ls) (xs := xs)) rfl
def y116 (Ls : Nat) (xs : Nat → Int32) : gx_W := s_a (y115 Ls xs) 62 (va_up (w_a (y115 Ls xs) 62) (2) (2))
theorem yk116 {Ls : Nat} {xs : Nat → Int32} : (y116 Ls xs).1 = (30, Ls) :: klW.take 62 := y_s_a (yk115 (Ls := Ls) (xs := xs)) rfl
def y117 (Ls : Nat) (xs : Nat → Int32) : gx_W := s_a (y116 Ls xs) 62 (va_up (w_a (y116 Ls xs) 62) (3) (4))
theorem yk117 {Ls : Nat} {xs : Nat → Int32} : (y117 Ls xs).1 = (30, Ls) :: klW.take 62 := y_s_a (yk116 (Ls := Ls) (xs := xs)) rfl
def y118 (Ls : Nat) (xs : Nat → Int32) : gx_W := s_r (y117 Ls xs) 57 6 (some 62)
theorem yk118 {Ls : Nat} {xs : Nat → Int32} : (y118 Ls xs).1 = (30, Ls) :: klW.take 62 := y_s_r (yk117 (Ls := Ls) (xs := xs)) rfl
def y119 (Ls : Nat) (xs : Nat → Int32) : gx_W := a_n (y118 Ls xs) 63 (20, 40)
theorem yk119 {Ls : Nat} {xs : Nat → Int32} : (y119 Ls xs).1 = (30, Ls) :: klW.take 63 := y_app (yk118 (Ls := Ls) (xs := xs)) (by decide +kernel) rfl
def y120 (Ls : Nat) (xs : Nat → Int32) : gx_W := s_r (y119 Ls xs) 57 9 (some 63)
theorem yk120 {Ls : Nat} {xs : Nat → Int32} : (y120 Ls xs).1 = (30, Ls) :: klW.take 63 := y_s_r (yk119 (Ls := Ls) (xs := xs)) rfl
def y121 (Ls : Nat) (xs : Nat → Int32) : gx_W := a_n (y120 Ls xs) 64 (20, 40)
theorem yk121 {Ls : Nat} {xs : Nat → Int32} : (y121 Ls xs).1 = (30, Ls) :: klW.take 64 := y_app (yk120 (Ls := Ls) (xs := xs)) (by decide +kernel) rfl
def y122 (Ls : Nat) (xs : Nat → Int32) : gx_W := s_r (y121 Ls xs) 57 10 (some 64)
theorem yk122 {Ls : Nat} {xs : Nat → Int32} : (y122 Ls xs).1 = (30, Ls) :: klW.take 64 := y_s_r (yk121 (Ls := Ls) (xs := xs)) rfl
def y123 (Ls : Nat) (xs : Nat → Int32) : gx_W := a_n (y122 Ls xs) 65 (20, 40)
theorem yk123 {Ls : Nat} {xs : Nat → Int32} : (y123 Ls xs).1 = (30, Ls) :: klW.take 65 := y_app (yk122 (Ls := Ls) (xs := xs)) (by decide +kernel) rfl
def y124 (Ls : Nat) (xs : Nat → Int32) : gx_W := s_r (y123 Ls xs) 57 11 (some 65)
theorem yk124 {Ls : Nat} {xs : Nat → Int32} : (y124 Ls xs).1 = (30, Ls) :: klW.take 65 := y_s_r (yk123 (Ls := Ls) (xs := xs)) rfl
def y125 (Ls : Nat) (xs : Nat → Int32) : gx_W := a_n (y124 Ls xs) 66 (20, 40)
theorem yk125 {Ls : Nat} {xs : Nat → Int32} : (y125 Ls xs).1 = (30, Ls) :: klW.take 66 := y_app (yk124 (Ls := Ls) (xs := xs)) (by decide +kernel) rfl
def y126 (Ls : Nat) (xs : Nat → Int32) : gx_W := s_r (y125 Ls xs) 57 12 (some 66)
theorem yk126 {Ls : Nat} {xs : Nat → Int32} : (y126 Ls xs).1 = (30, Ls) :: klW.take 66 := y_s_r (yk125 (Ls := Ls) (xs := xs)) rfl
def y127 (Ls : Nat) (xs : Nat → Int32) : gx_W := a_n (y126 Ls xs) 67 (21, 120)
theorem yk127 {Ls : Nat} {xs : Nat → Int32} : (y127 Ls xs).1 = (30, Ls) :: klW.take 67 := y_app (yk126 (Ls := Ls) (xs := xs)) (by decide +kernel) rfl
def y128 (Ls : Nat) (xs : Nat → Int32) : gx_W := s_r (y127 Ls xs) 57 13 (some 67)
theorem yk128 {Ls : Nat} {xs : Nat → Int32} : (y128 Ls xs).1 = (30, Ls) :: klW.take 67 := y_s_r (yk127 (Ls := Ls) (xs := xs)) rfl
def y129 (Ls : Nat) (xs : Nat → Int32) : gx_W := a_n (y128 Ls xs) 68 (21, 260)
theorem yk129 {Ls : Nat} {xs : Nat → Int32} : (y129 Ls xs).1 = (30, Ls) :: klW.take 68 := y_app (yk128 (Ls := Ls) (xs := xs)) (by decide +kernel) rfl
def y130 (Ls : Nat) (xs : Nat → Int32) : gx_W := s_r (y129 Ls xs) 57 19 (some 68)
theorem yk130 {Ls : Nat} {xs : Nat → Int32} : (y130 Ls xs).1 = (30, Ls) :: klW.take 68 := y_s_r (yk129 (Ls := Ls) (xs := xs)) rfl
def y131 (Ls : Nat) (xs : Nat → Int32) : gx_W := a_n (y130 Ls xs) 69 (20, 260)
theorem yk131 {Ls : Nat} {xs : Nat → Int32} : (y131 Ls xs).1 = (30, Ls) :: klW.take 69 := y_app (yk130 (Ls := Ls) (xs := xs)) (by decide +kernel) rfl
def y132 (Ls : Nat) (xs : Nat → Int32) : gx_W := s_r (y131 Ls xs) 57 20 (some 69)
theorem yk132 {Ls : Nat} {xs : Nat → Int32} : (y132 Ls xs).1 = (30, Ls) :: klW.take 69 := y_s_r (yk131 (Ls := Ls) (xs := xs)) rfl
def y133 (Ls : Nat) (xs : Nat → Int32) : gx_W := a_n (y132 Ls xs) 70 (20, 2)
theorem yk133 {Ls : Nat} {xs : Nat → Int32} : (y133 Ls xs).1 = (30, Ls) :: klW.take 70 := y_app (yk132 (Ls := Ls) (xs := xs)) (by decide +kernel) rfl
def y134 (Ls : Nat) (xs : Nat → Int32) : gx_W := s_r (y133 Ls xs) 57 21 (some 70)
theorem yk134 {Ls : Nat} {xs : Nat → Int32} : (y134 Ls xs).1 = (30, Ls) :: klW.take 70 := y_s_r (yk133 (Ls := Ls) (xs := xs)) rfl
def y135 (Ls : Nat) (xs : Nat → Int32) : gx_W := a_n (y134 Ls xs) 71 (22, 122)
theorem yk135 {Ls : Nat} {xs : Nat → Int32} : (y135 Ls xs).1 = (30, Ls) :: klW.take 71 := y_app (yk134 (Ls := Ls) (xs := xs)) (by decide +kernel) rfl
def y136 (Ls : Nat) (xs : Nat → Int32) : gx_W := s_r (y135 Ls xs) 57 22 (some 71)
theorem yk136 {Ls : Nat} {xs : Nat → Int32} : (y136 Ls xs).1 = (30, Ls) :: klW.take 71 := y_s_r (yk135 (Ls := Ls) (xs := xs)) rfl
def y137 (Ls : Nat) (xs : Nat → Int32) : gx_W := a_n (y136 Ls xs) 72 (22, 122)
theorem yk137 {Ls : Nat} {xs : Nat → Int32} : (y137 Ls xs).1 = (30, Ls) :: klW.take 72 := y_app (yk136 (Ls := Ls) (xs := xs)) (by decide +kernel) rfl
def y138 (Ls : Nat) (xs : Nat → Int32) : gx_W := s_r (y137 Ls xs) 57 23 (some 72)
theorem yk138 {Ls : Nat} {xs : Nat → Int32} : (y138 Ls xs).1 = (30, Ls) :: klW.take 72 := y_s_r (yk137 (Ls := Ls) (xs := xs)) rfl
def y139 (Ls : Nat) (xs : Nat → Int32) : gx_W := a_n (y138 Ls xs) 73 (20, 6)
theorem yk139 {Ls : Nat} {xs : Nat → Int32} : (y139 Ls xs).1 = (30, Ls) :: klW.take 73 := y_app (yk138 (Ls := Ls) (xs := xs)) (by decide +kernel) rfl
def y140 (Ls : Nat) (xs : Nat → Int32) : gx_W := s_r (y139 Ls xs) 57 24 (some 73)
theorem yk140 {Ls : Nat} {xs : Nat → Int32} : (y140 Ls xs).1 = (30, Ls) :: klW.take 73 := y_s_r (yk139 (Ls := Ls) (xs := xs)) rfl
def y141 (Ls : Nat) (xs : Nat → Int32) : gx_W := a_n (y140 Ls xs) 74 (20, 130)
theorem yk141 {Ls : Nat} {xs : Nat → Int32} : (y141 Ls xs).1 = (30, Ls) :: klW.take 74 := y_app (yk140 (Ls := Ls) (xs := xs)) (by decide +kernel) rfl
def y142 (Ls : Nat) (xs : Nat → Int32) : gx_W := s_r (y141 Ls xs) 57 25 (some 74)
theorem yk142 {Ls : Nat} {xs : Nat → Int32} : (y142 Ls xs).1 = (30, Ls) :: klW.take 74 := y_s_r (yk141 (Ls := Ls) (xs := xs)) rfl
def y143 (Ls : Nat) (xs : Nat → Int32) : gx_W := a_n (y142 Ls xs) 75 (20, 6)
theorem yk143 {Ls : Nat} {xs : Nat → Int32} : (y143 Ls xs).1 = (30, Ls) :: klW.take 75 := y_app (yk142 (Ls := Ls) (xs := xs)) (by decide +kernel) rfl
def y144 (Ls : Nat) (xs : Nat → Int32) : gx_W := s_r (y143 Ls xs) 57 27 (some 75)
theorem yk144 {Ls : Nat} {xs : Nat → Int32} : (y144 Ls xs).1 = (30, Ls) :: klW.take 75 := y_s_r (yk143 (Ls := Ls) (xs := xs)) rfl
def y145 (Ls : Nat) (xs : Nat → Int32) : gx_W := a_n (y144 Ls xs) 76 (20, 6)
theorem yk145 {Ls : Nat} {xs : Nat → Int32} : (y145 Ls xs).1 = (30, Ls) :: klW.take 76 := y_app (yk144 (Ls := Ls) (xs := xs)) (by decide +kernel) rfl
def y146 (Ls : Nat) (xs : Nat → Int32) : gx_W := s_r (y145 Ls xs) 57 28 (some 76)
theorem yk146 {Ls : Nat} {xs : Nat → Int32} : (y146 Ls xs).1 = (30, Ls) :: klW.take 76 := y_s_r (yk145 (Ls := Ls) (xs := xs)) rfl
def y147 (Ls : Nat) (xs : Nat → Int32) : gx_W := a_n (y146 Ls xs) 77 (20, 6)
theorem yk147 {Ls : Nat} {xs : Nat → Int32} : (y147 Ls xs).1 = (30, Ls) :: klW.take 77 := y_app (yk146 (Ls := Ls) (xs := xs)) (by decide +kernel) rfl
def y148 (Ls : Nat) (xs : Nat → Int32) : gx_W := s_r (y147 Ls xs) 57 29 (some 77)
theorem yk148 {Ls : Nat} {xs : Nat → Int32} : (y148 Ls xs).1 = (30, Ls) :: klW.take 77 := y_s_r (yk147 (Ls := Ls) (xs := xs)) rfl
def y149 (Ls : Nat) (xs : Nat → Int32) : gx_W := a_n (y148 Ls xs) 78 (20, 6)
theorem yk149 {Ls : Nat} {xs : Nat → Int32} : (y149 Ls xs).1 = (30, Ls) :: klW.take 78 := y_app (yk148 (Ls := Ls) (xs := xs)) (by decide +kernel) rfl
def y150 (Ls : Nat) (xs : Nat → Int32) : gx_W := s_r (y149 Ls xs) 57 30 (some 78)
theorem yk150 {Ls : Nat} {xs : Nat → Int32} : (y150 Ls xs).1 = (30, Ls) :: klW.take 78 := y_s_r (yk149 (Ls := Ls) (xs := xs)) rfl
def y151 (Ls : Nat) (xs : Nat → Int32) : gx_W := a_n (y150 Ls xs) 79 (20, 24)
theorem yk151 {Ls : Nat} {xs : Nat → Int32} : (y151 Ls xs).1 = (30, Ls) :: klW.take 79 := y_app (yk150 (Ls := Ls) (xs := xs)) (by decide +kernel) rfl
def y152 (Ls : Nat) (xs : Nat → Int32) : gx_W := s_r (y151 Ls xs) 57 32 (some 79)
theorem yk152 {Ls : Nat} {xs : Nat → Int32} : (y152 Ls xs).1 = (30, Ls) :: klW.take 79 := y_s_r (yk151 (Ls := Ls) (xs := xs)) rfl
def y153 (Ls : Nat) (xs : Nat → Int32) : gx_W := a_n (y152 Ls xs) 80 (20, 3)
theorem yk153 {Ls : Nat} {xs : Nat → Int32} : (y153 Ls xs).1 = (30, Ls) :: klW.take 80 := y_app (yk152 (Ls := Ls) (xs := xs)) (by decide +kernel) rfl
def y154 (Ls : Nat) (xs : Nat → Int32) : gx_W := s_r (y153 Ls xs) 57 33 (some 80)
theorem yk154 {Ls : Nat} {xs : Nat → Int32} : (y154 Ls xs).1 = (30, Ls) :: klW.take 80 := y_s_r (yk153 (Ls := Ls) (xs := xs)) rfl
def y155 (Ls : Nat) (xs : Nat → Int32) : gx_W := a_n (y154 Ls xs) 81 (20, 6)
theorem yk155 {Ls : Nat} {xs : Nat → Int32} : (y155 Ls xs).1 = (30, Ls) :: klW.take 81 := y_app (yk154 (Ls := Ls) (xs := xs)) (by decide +kernel) rfl
def y156 (Ls : Nat) (xs : Nat → Int32) : gx_W := s_r (y155 Ls xs) 57 34 (some 81)
theorem yk156 {Ls : Nat} {xs : Nat → Int32} : (y156 Ls xs).1 = (30, Ls) :: klW.take 81 := y_s_r (yk155 (Ls := Ls) (xs := xs)) rfl
def y157 (Ls : Nat) (xs : Nat → Int32) : gx_W := a_n (y156 Ls xs) 82 (20, 4)
theorem yk157 {Ls : Nat} {xs : Nat → Int32} : (y157 Ls xs).1 = (30, Ls) :: klW.take 82 := y_app (yk156 (Ls := Ls) (xs := xs)) (by decide +kernel) rfl
def y158 (Ls : Nat) (xs : Nat → Int32) : gx_W := s_r (y157 Ls xs) 57 36 (some 82)
theorem yk158 {Ls : Nat} {xs : Nat → Int32} : (y158 Ls xs).1 = (30, Ls) :: klW.take 82 := y_s_r (yk157 (Ls := Ls) (xs := xs)) rfl
def y159 (Ls : Nat) (xs : Nat → Int32) : gx_W := s_i (y158 Ls xs) 57 37 (-2)
theorem yk159 {Ls : Nat} {xs : Nat → Int32} : (y159 Ls xs).1 = (30, Ls) :: klW.take 82 := y_s_i (yk158 (Ls := Ls) (xs := xs)) rfl
def y160 (Ls : Nat) (xs : Nat → Int32) : gx_W := a_n (y159 Ls xs) 83 (20, 6)
theorem yk160 {Ls : Nat} {xs : Nat → Int32} : (y160 Ls xs).1 = (30, Ls) :: klW.take 83 := y_app (yk159 (Ls := Ls) (xs := xs)) (by decide +kernel) rfl
def y161 (Ls : Nat) (xs : Nat → Int32) : gx_W := s_r (y160 Ls xs) 57 41 (some 83)
theorem yk161 {Ls : Nat} {xs : Nat → Int32} : (y161 Ls xs).1 = (30, Ls) :: klW.take 83 := y_s_r (yk160 (Ls := Ls) (xs := xs)) rfl
def y162 (Ls : Nat) (xs : Nat → Int32) : gx_W := a_n (y161 Ls xs) 84 (20, 4)
theorem yk162 {Ls : Nat} {xs : Nat → Int32} : (y162 Ls xs).1 = (30, Ls) :: klW.take 84 := y_app (yk161 (Ls := Ls) (xs := xs)) (by decide +kernel) rfl
def y163 (Ls : Nat) (xs : Nat → Int32) : gx_W := s_r (y162 Ls xs) 57 42 (some 84)
theorem yk163 {Ls : Nat} {xs : Nat → Int32} : (y163 Ls xs).1 = (30, Ls) :: klW.take 84 := y_s_r (yk162 (Ls := Ls) (xs := xs)) rfl
def y164 (Ls : Nat) (xs : Nat → Int32) : gx_W := a_n (y163 Ls xs) 85 (20, 50)
theorem yk164 {Ls : Nat} {xs : Nat → Int32} : (y164 Ls xs).1 = (30, Ls) :: klW.take 85 := y_app (yk163 (Ls := Ls) (xs := xs)) (by decide +kernel) rfl
def y165 (Ls : Nat) (xs : Nat → Int32) : gx_W := s_r (y164 Ls xs) 57 44 (some 85)
theorem yk165 {Ls : Nat} {xs : Nat → Int32} : (y165 Ls xs).1 = (30, Ls) :: klW.take 85 := y_s_r (yk164 (Ls := Ls) (xs := xs)) rfl
def y166 (Ls : Nat) (xs : Nat → Int32) : gx_W := a_n (y165 Ls xs) 86 (20, 24)
theorem yk166 {Ls : Nat} {xs : Nat → Int32} : (y166 Ls xs).1 = (30, Ls) :: klW.take 86 := y_app (yk165 (Ls := Ls) (xs := xs)) (by decide +kernel) rfl
def y167 (Ls : Nat) (xs : Nat → Int32) : gx_W := s_r (y166 Ls xs) 57 46 (some 86)
theorem yk167 {Ls : Nat} {xs : Nat → Int32} : (y167 Ls xs).1 = (30, Ls) :: klW.take 86 := y_s_r (yk166 (Ls := Ls) (xs := xs)) rfl
def y168 (Ls : Nat) (xs : Nat → Int32) : gx_W := a_n (y167 Ls xs) 87 (20, 6)
theorem yk168 {Ls : Nat} {xs : Nat → Int32} : (y168 Ls xs).1 = (30, Ls) :: klW.take 87 := y_app (yk167 (Ls := Ls) (xs := xs)) (by decide +kernel) rfl
def y169 (Ls : Nat) (xs : Nat → Int32) : gx_W := s_a (y168 Ls xs) 87 (va_up (w_a (y168 Ls xs) 87) (0) (-1))
theorem yk169 {Ls : Nat} {xs : Nat → Int32} : (y169 Ls xs).1 = (30, Ls) :: klW.take 87 := y_s_a (yk168 (Ls := Ls) (xs := xs)) rfl
def y170 (Ls : Nat) (xs : Nat → Int32) : gx_W := s_a (y169 Ls xs) 87 (va_up (w_a (y169 Ls xs) 87) (1) (-1))
theorem yk170 {Ls : Nat} {xs : Nat → Int32} : (y170 Ls xs).1 = (30, Ls) :: klW.take 87 := y_s_a (yk169 (Ls := Ls) (xs := xs)) rfl
def y171 (Ls : Nat) (xs : Nat → Int32) : gx_W := s_a (y170 Ls xs) 87 (va_up (w_a (y170 Ls xs) 87) (2) (-1))
theorem yk171 {Ls : Nat} {xs : Nat → Int32} : (y171 Ls xs).1 = (30, Ls) :: klW.take 87 := y_s_a (yk170 (Ls := Ls) (xs := xs)) rfl
def y172 (Ls : Nat) (xs : Nat → Int32) : gx_W := s_a (y171 Ls xs) 87 (va_up (w_a (y171 Ls xs) 87) (3) (-1))
theorem yk172 {Ls : Nat} {xs : Nat → Int32} : (y172 Ls xs).1 = (30, Ls) :: klW.take 87 := y_s_a (yk171 (Ls := Ls) (xs := xs)) rfl
def y173 (Ls : Nat) (xs : Nat → Int32) : gx_W := s_a (y172 Ls xs) 87 (va_up (w_a (y172 Ls xs) 87) (4) (-1))
theorem yk173 {Ls : Nat} {xs : Nat → Int32} : (y173 Ls xs).1 = (30, Ls) :: klW.take 87 := y_s_a (yk172 (Ls := Ls) (xs := xs)) rfl
def y174 (Ls : Nat) (xs : Nat → Int32) : gx_W := s_a (y173 Ls xs) 87 (va_up (w_a (y173 Ls xs) 87) (5) (-1))
theorem yk174 {Ls : Nat} {xs : Nat → Int32} : (y174 Ls xs).1 = (30, Ls) :: klW.take 87 := y_s_a (yk173 (Ls := Ls) (xs := xs)) rfl
def y175 (Ls : Nat) (xs : Nat → Int32) : gx_W := s_r (y174 Ls xs) 57 47 (some 87)
theorem yk175 {Ls : Nat} {xs : Nat → Int32} : (y175 Ls xs).1 = (30, Ls) :: klW.take 87 := y_s_r (yk174 (Ls := Ls) (xs := xs)) rfl
def y176 (Ls : Nat) (xs : Nat → Int32) : gx_W := a_n (y175 Ls xs) 88 (20, 6)
theorem yk176 {Ls : Nat} {xs : Nat → Int32} : (y176 Ls xs).1 = (30, Ls) :: klW.take 88 := y_app (yk175 (Ls := Ls) (xs := xs)) (by decide +kernel) rfl
def y177 (Ls : Nat) (xs : Nat → Int32) : gx_W := s_r (y176 Ls xs) 57 48 (some 88)
theorem yk177 {Ls : Nat} {xs : Nat → Int32} : (y177 Ls xs).1 = (30, Ls) :: klW.take 88 := y_s_r (yk176 (Ls := Ls) (xs := xs)) rfl
def y178 (Ls : Nat) (xs : Nat → Int32) : gx_W := a_n (y177 Ls xs) 89 (23, 360)
theorem yk178 {Ls : Nat} {xs : Nat → Int32} : (y178 Ls xs).1 = (30, Ls) :: klW.take 89 := y_app (yk177 (Ls := Ls) (xs := xs)) (by decide +kernel) rfl
def y179 (Ls : Nat) (xs : Nat → Int32) : gx_W := s_r (y178 Ls xs) 57 49 (some 89)
theorem yk179 {Ls : Nat} {xs : Nat → Int32} : (y179 Ls xs).1 = (30, Ls) :: klW.take 89 := y_s_r (yk178 (Ls := Ls) (xs := xs)) rfl
def y180 (Ls : Nat) (xs : Nat → Int32) : gx_W := a_n (y179 Ls xs) 90 (23, 60)
theorem yk180 {Ls : Nat} {xs : Nat → Int32} : (y180 Ls xs).1 = (30, Ls) :: klW.take 90 := y_app (yk179 (Ls := Ls) (xs := xs)) (by decide +kernel) rfl
def y181 (Ls : Nat) (xs : Nat → Int32) : gx_W := s_r (y180 Ls xs) 57 50 (some 90)
theorem yk181 {Ls : Nat} {xs : Nat → Int32} : (y181 Ls xs).1 = (30, Ls) :: klW.take 90 := y_s_r (yk180 (Ls := Ls) (xs := xs)) rfl
set_option maxHeartbeats 1000000 in
theorem c_X10_init_17 {d Ls : Nat} {xs : Nat → Int32} {k : gx_W → Prop} (hd : 1 ≤ d) (hk : k (y181 Ls xs)) : gx_C 33 1787 d mX10_init [.ref 57] (y104 Ls xs) (Qv k) := by
  refine gx_C_of' (L := [.ref 57]) (by decide +kernel) rfl (Nat.le_of_ble_eq_true rfl) ?_
  refine g_aload_n dX10_init_0 rfl ?_
  refine g_objInit dX10_init_1 ol_X10_3 oi_1 oi_2 (Nat.le_of_ble_eq_true rfl) rfl (by omega) ?_
  refine g_aload_n dX10_init_4 rfl ?_
  refine g_bipush (v := 6) dX10_init_5 rfl ?_
  refine g_mk_int (w' := (y105 Ls xs)) (r := 58) (N := 6) (y_len yk104 (by decide)) dX10_init_7 rfl rfl (Nat.le_of_ble_eq_true rfl) rfl ?_
  refine g_putr dX10_init_9 fl_X10_9 ft_10_2 rfl (fun _ => ⟨rfl, _, rfl, rfl⟩) (y_at yk105 (r := 56) (c := (10, 0)) (by decide +kernel)) ?_
  refine g_fold (w' := (y106 Ls xs)) rfl ?_
  refine g_aload_n dX10_init_12 rfl ?_
  refine g_bipush (v := 6) dX10_init_13 rfl ?_
  refine g_mk_int (w' := (y107 Ls xs)) (r := 59) (N := 6) (y_len yk106 (by decide)) dX10_init_15 rfl rfl (Nat.le_of_ble_eq_true rfl) rfl ?_
  refine g_putr dX10_init_17 fl_X10_15 ft_10_3 rfl (fun _ => ⟨rfl, _, rfl, rfl⟩) (y_at yk107 (r := 56) (c := (10, 0)) (by decide +kernel)) ?_
  refine g_fold (w' := (y108 Ls xs)) rfl ?_
  refine g_aload_n dX10_init_20 rfl ?_
  refine g_bipush (v := 6) dX10_init_21 rfl ?_
  refine g_mk_int (w' := (y109 Ls xs)) (r := 60) (N := 6) (y_len yk108 (by decide)) dX10_init_23 rfl rfl (Nat.le_of_ble_eq_true rfl) rfl ?_
  refine g_putr dX10_init_25 fl_X10_18 ft_10_4 rfl (fun _ => ⟨rfl, _, rfl, rfl⟩) (y_at yk109 (r := 56) (c := (10, 0)) (by decide +kernel)) ?_
  refine g_fold (w' := (y110 Ls xs)) rfl ?_
  refine g_aload_n dX10_init_28 rfl ?_
  refine g_bipush (v := 6) dX10_init_29 rfl ?_
  refine g_mk_int (w' := (y111 Ls xs)) (r := 61) (N := 6) (y_len yk110 (by decide)) dX10_init_31 rfl rfl (Nat.le_of_ble_eq_true rfl) rfl ?_
  refine g_putr dX10_init_33 fl_X10_21 ft_10_5 rfl (fun _ => ⟨rfl, _, rfl, rfl⟩) (y_at yk111 (r := 56) (c := (10, 0)) (by decide +kernel)) ?_
  refine g_fold (w' := (y112 Ls xs)) rfl ?_
  refine g_aload_n dX10_init_36 rfl ?_
  refine g_iconst (v := 4) dX10_init_37 rfl ?_
  refine g_mk_int (w' := (y113 Ls xs)) (r := 62) (N := 4) (y_len yk112 (by decide)) dX10_init_38 rfl rfl (Nat.le_of_ble_eq_true rfl) rfl ?_
  refine g_dup dX10_init_40 rfl ?_
  refine g_iconst (v := 0) dX10_init_41 rfl ?_
  refine g_bipush (v := 8) dX10_init_42 rfl ?_
  refine g_iast dX10_init_44 (y_at yk113 (r := 61) (c := (20, 4)) (by decide +kernel)) (by exact vp_in_iff.mpr (by decide)) ?_
  refine g_fold (w' := (y114 Ls xs)) (by rw [show (0 : Int32).toNatClampNeg = 0 by decide]; rfl) ?_
  refine g_dup dX10_init_45 rfl ?_
  refine g_iconst (v := 1) dX10_init_46 rfl ?_
  refine g_iconst (v := 0) dX10_init_47 rfl ?_
  refine g_iast dX10_init_48 (y_at yk114 (r := 61) (c := (20, 4)) (by decide +kernel)) (by exact vp_in_iff.mpr (by decide)) ?_
  refine g_fold (w' := (y115 Ls xs)) (by rw [show (1 : Int32).toNatClampNeg = 1 by decide]; rfl) ?_
  refine g_dup dX10_init_49 rfl ?_
  refine g_iconst (v := 2) dX10_init_50 rfl ?_
  refine g_iconst (v := 2) dX10_init_51 rfl ?_
  refine g_iast dX10_init_52 (y_at yk115 (r := 61) (c := (20, 4)) (by decide +kernel)) (by exact vp_in_iff.mpr (by decide)) ?_
  refine g_fold (w' := (y116 Ls xs)) (by rw [show (2 : Int32).toNatClampNeg = 2 by decide]; rfl) ?_
  refine g_dup dX10_init_53 rfl ?_
  refine g_iconst (v := 3) dX10_init_54 rfl ?_
  refine g_iconst (v := 4) dX10_init_55 rfl ?_
  refine g_iast dX10_init_56 (y_at yk116 (r := 61) (c := (20, 4)) (by decide +kernel)) (by exact vp_in_iff.mpr (by decide)) ?_
  refine g_fold (w' := (y117 Ls xs)) (by rw [show (3 : Int32).toNatClampNeg = 3 by decide]; rfl) ?_
  refine g_putr dX10_init_57 fl_X10_24 ft_10_6 rfl (fun _ => ⟨rfl, _, rfl, rfl⟩) (y_at yk117 (r := 56) (c := (10, 0)) (by decide +kernel)) ?_
  refine g_fold (w' := (y118 Ls xs)) rfl ?_
  refine g_aload_n dX10_init_60 rfl ?_
  refine g_bipush (v := 40) dX10_init_61 rfl ?_
  refine g_mk_int (w' := (y119 Ls xs)) (r := 63) (N := 40) (y_len yk118 (by decide)) dX10_init_63 rfl rfl (Nat.le_of_ble_eq_true rfl) rfl ?_
  refine g_putr dX10_init_65 fl_X10_27 ft_10_9 rfl (fun _ => ⟨rfl, _, rfl, rfl⟩) (y_at yk119 (r := 56) (c := (10, 0)) (by decide +kernel)) ?_
  refine g_fold (w' := (y120 Ls xs)) rfl ?_
  refine g_aload_n dX10_init_68 rfl ?_
  refine g_bipush (v := 40) dX10_init_69 rfl ?_
  refine g_mk_int (w' := (y121 Ls xs)) (r := 64) (N := 40) (y_len yk120 (by decide)) dX10_init_71 rfl rfl (Nat.le_of_ble_eq_true rfl) rfl ?_
  refine g_putr dX10_init_73 fl_X10_30 ft_10_10 rfl (fun _ => ⟨rfl, _, rfl, rfl⟩) (y_at yk121 (r := 56) (c := (10, 0)) (by decide +kernel)) ?_
  refine g_fold (w' := (y122 Ls xs)) rfl ?_
  refine g_aload_n dX10_init_76 rfl ?_
  refine g_bipush (v := 40) dX10_init_77 rfl ?_
  refine g_mk_int (w' := (y123 Ls xs)) (r := 65) (N := 40) (y_len yk122 (by decide)) dX10_init_79 rfl rfl (Nat.le_of_ble_eq_true rfl) rfl ?_
  refine g_putr dX10_init_81 fl_X10_33 ft_10_11 rfl (fun _ => ⟨rfl, _, rfl, rfl⟩) (y_at yk123 (r := 56) (c := (10, 0)) (by decide +kernel)) ?_
  refine g_fold (w' := (y124 Ls xs)) rfl ?_
  refine g_aload_n dX10_init_84 rfl ?_
  refine g_bipush (v := 40) dX10_init_85 rfl ?_
  refine g_mk_int (w' := (y125 Ls xs)) (r := 66) (N := 40) (y_len yk124 (by decide)) dX10_init_87 rfl rfl (Nat.le_of_ble_eq_true rfl) rfl ?_
  refine g_putr dX10_init_89 fl_X10_36 ft_10_12 rfl (fun _ => ⟨rfl, _, rfl, rfl⟩) (y_at yk125 (r := 56) (c := (10, 0)) (by decide +kernel)) ?_
  refine g_fold (w' := (y126 Ls xs)) rfl ?_
  refine g_aload_n dX10_init_92 rfl ?_
  refine g_bipush (v := 120) dX10_init_93 rfl ?_
  refine g_mk_byte (w' := (y127 Ls xs)) (r := 67) (N := 120) (y_len yk126 (by decide)) dX10_init_95 rfl rfl (Nat.le_of_ble_eq_true rfl) rfl ?_
  refine g_putr dX10_init_97 fl_X10_39 ft_10_13 rfl (fun _ => ⟨rfl, _, rfl, rfl⟩) (y_at yk127 (r := 56) (c := (10, 0)) (by decide +kernel)) ?_
  refine g_fold (w' := (y128 Ls xs)) rfl ?_
  refine g_aload_n dX10_init_100 rfl ?_
  refine g_sipush (v := 260) dX10_init_101 rfl ?_
  refine g_mk_byte (w' := (y129 Ls xs)) (r := 68) (N := 260) (y_len yk128 (by decide)) dX10_init_104 rfl rfl (Nat.le_of_ble_eq_true rfl) rfl ?_
  refine g_putr dX10_init_106 fl_X10_43 ft_10_19 rfl (fun _ => ⟨rfl, _, rfl, rfl⟩) (y_at yk129 (r := 56) (c := (10, 0)) (by decide +kernel)) ?_
  refine g_fold (w' := (y130 Ls xs)) rfl ?_
  refine g_aload_n dX10_init_109 rfl ?_
  refine g_sipush (v := 260) dX10_init_110 rfl ?_
  refine g_mk_int (w' := (y131 Ls xs)) (r := 69) (N := 260) (y_len yk130 (by decide)) dX10_init_113 rfl rfl (Nat.le_of_ble_eq_true rfl) rfl ?_
  refine g_putr dX10_init_115 fl_X10_46 ft_10_20 rfl (fun _ => ⟨rfl, _, rfl, rfl⟩) (y_at yk131 (r := 56) (c := (10, 0)) (by decide +kernel)) ?_
  refine g_fold (w' := (y132 Ls xs)) rfl ?_
  refine g_aload_n dX10_init_118 rfl ?_
  refine g_iconst (v := 2) dX10_init_119 rfl ?_
  refine g_mk_int (w' := (y133 Ls xs)) (r := 70) (N := 2) (y_len yk132 (by decide)) dX10_init_120 rfl rfl (Nat.le_of_ble_eq_true rfl) rfl ?_
  refine g_putr dX10_init_122 fl_X10_49 ft_10_21 rfl (fun _ => ⟨rfl, _, rfl, rfl⟩) (y_at yk133 (r := 56) (c := (10, 0)) (by decide +kernel)) ?_
  refine g_fold (w' := (y134 Ls xs)) rfl ?_
  refine g_aload_n dX10_init_125 rfl ?_
  refine g_bipush (v := 122) dX10_init_126 rfl ?_
  refine g_mk_short (w' := (y135 Ls xs)) (r := 71) (N := 122) (y_len yk134 (by decide)) dX10_init_128 rfl rfl (Nat.le_of_ble_eq_true rfl) rfl ?_
  refine g_putr dX10_init_130 fl_X10_52 ft_10_22 rfl (fun _ => ⟨rfl, _, rfl, rfl⟩) (y_at yk135 (r := 56) (c := (10, 0)) (by decide +kernel)) ?_
  refine g_fold (w' := (y136 Ls xs)) rfl ?_
  refine g_aload_n dX10_init_133 rfl ?_
  refine g_bipush (v := 122) dX10_init_134 rfl ?_
  refine g_mk_short (w' := (y137 Ls xs)) (r := 72) (N := 122) (y_len yk136 (by decide)) dX10_init_136 rfl rfl (Nat.le_of_ble_eq_true rfl) rfl ?_
  refine g_putr dX10_init_138 fl_X10_56 ft_10_23 rfl (fun _ => ⟨rfl, _, rfl, rfl⟩) (y_at yk137 (r := 56) (c := (10, 0)) (by decide +kernel)) ?_
  refine g_fold (w' := (y138 Ls xs)) rfl ?_
  refine g_aload_n dX10_init_141 rfl ?_
  refine g_bipush (v := 6) dX10_init_142 rfl ?_
  refine g_mk_int (w' := (y139 Ls xs)) (r := 73) (N := 6) (y_len yk138 (by decide)) dX10_init_144 rfl rfl (Nat.le_of_ble_eq_true rfl) rfl ?_
  refine g_putr dX10_init_146 fl_X10_59 ft_10_24 rfl (fun _ => ⟨rfl, _, rfl, rfl⟩) (y_at yk139 (r := 56) (c := (10, 0)) (by decide +kernel)) ?_
  refine g_fold (w' := (y140 Ls xs)) rfl ?_
  refine g_aload_n dX10_init_149 rfl ?_
  refine g_sipush (v := 130) dX10_init_150 rfl ?_
  refine g_mk_int (w' := (y141 Ls xs)) (r := 74) (N := 130) (y_len yk140 (by decide)) dX10_init_153 rfl rfl (Nat.le_of_ble_eq_true rfl) rfl ?_
  refine g_putr dX10_init_155 fl_X10_62 ft_10_25 rfl (fun _ => ⟨rfl, _, rfl, rfl⟩) (y_at yk141 (r := 56) (c := (10, 0)) (by decide +kernel)) ?_
  refine g_fold (w' := (y142 Ls xs)) rfl ?_
  refine g_aload_n dX10_init_158 rfl ?_
  refine g_bipush (v := 6) dX10_init_159 rfl ?_
  refine g_mk_int (w' := (y143 Ls xs)) (r := 75) (N := 6) (y_len yk142 (by decide)) dX10_init_161 rfl rfl (Nat.le_of_ble_eq_true rfl) rfl ?_
  refine g_putr dX10_init_163 fl_X10_65 ft_10_27 rfl (fun _ => ⟨rfl, _, rfl, rfl⟩) (y_at yk143 (r := 56) (c := (10, 0)) (by decide +kernel)) ?_
  refine g_fold (w' := (y144 Ls xs)) rfl ?_
  refine g_aload_n dX10_init_166 rfl ?_
  refine g_bipush (v := 6) dX10_init_167 rfl ?_
  refine g_mk_int (w' := (y145 Ls xs)) (r := 76) (N := 6) (y_len yk144 (by decide)) dX10_init_169 rfl rfl (Nat.le_of_ble_eq_true rfl) rfl ?_
  refine g_putr dX10_init_171 fl_X10_68 ft_10_28 rfl (fun _ => ⟨rfl, _, rfl, rfl⟩) (y_at yk145 (r := 56) (c := (10, 0)) (by decide +kernel)) ?_
  refine g_fold (w' := (y146 Ls xs)) rfl ?_
  refine g_aload_n dX10_init_174 rfl ?_
  refine g_bipush (v := 6) dX10_init_175 rfl ?_
  refine g_mk_int (w' := (y147 Ls xs)) (r := 77) (N := 6) (y_len yk146 (by decide)) dX10_init_177 rfl rfl (Nat.le_of_ble_eq_true rfl) rfl ?_
  refine g_putr dX10_init_179 fl_X10_71 ft_10_29 rfl (fun _ => ⟨rfl, _, rfl, rfl⟩) (y_at yk147 (r := 56) (c := (10, 0)) (by decide +kernel)) ?_
  refine g_fold (w' := (y148 Ls xs)) rfl ?_
  refine g_aload_n dX10_init_182 rfl ?_
  refine g_bipush (v := 6) dX10_init_183 rfl ?_
  refine g_mk_int (w' := (y149 Ls xs)) (r := 78) (N := 6) (y_len yk148 (by decide)) dX10_init_185 rfl rfl (Nat.le_of_ble_eq_true rfl) rfl ?_
  refine g_putr dX10_init_187 fl_X10_74 ft_10_30 rfl (fun _ => ⟨rfl, _, rfl, rfl⟩) (y_at yk149 (r := 56) (c := (10, 0)) (by decide +kernel)) ?_
  refine g_fold (w' := (y150 Ls xs)) rfl ?_
  refine g_aload_n dX10_init_190 rfl ?_
  refine g_bipush (v := 24) dX10_init_191 rfl ?_
  refine g_mk_int (w' := (y151 Ls xs)) (r := 79) (N := 24) (y_len yk150 (by decide)) dX10_init_193 rfl rfl (Nat.le_of_ble_eq_true rfl) rfl ?_
  refine g_putr dX10_init_195 fl_X10_77 ft_10_32 rfl (fun _ => ⟨rfl, _, rfl, rfl⟩) (y_at yk151 (r := 56) (c := (10, 0)) (by decide +kernel)) ?_
  refine g_fold (w' := (y152 Ls xs)) rfl ?_
  refine g_aload_n dX10_init_198 rfl ?_
  refine g_iconst (v := 3) dX10_init_199 rfl ?_
  refine g_mk_int (w' := (y153 Ls xs)) (r := 80) (N := 3) (y_len yk152 (by decide)) dX10_init_200 rfl rfl (Nat.le_of_ble_eq_true rfl) rfl ?_
  refine g_putr dX10_init_202 fl_X10_80 ft_10_33 rfl (fun _ => ⟨rfl, _, rfl, rfl⟩) (y_at yk153 (r := 56) (c := (10, 0)) (by decide +kernel)) ?_
  refine g_fold (w' := (y154 Ls xs)) rfl ?_
  refine g_aload_n dX10_init_205 rfl ?_
  refine g_bipush (v := 6) dX10_init_206 rfl ?_
  refine g_mk_int (w' := (y155 Ls xs)) (r := 81) (N := 6) (y_len yk154 (by decide)) dX10_init_208 rfl rfl (Nat.le_of_ble_eq_true rfl) rfl ?_
  refine g_putr dX10_init_210 fl_X10_83 ft_10_34 rfl (fun _ => ⟨rfl, _, rfl, rfl⟩) (y_at yk155 (r := 56) (c := (10, 0)) (by decide +kernel)) ?_
  refine g_fold (w' := (y156 Ls xs)) rfl ?_
  refine g_aload_n dX10_init_213 rfl ?_
  refine g_iconst (v := 4) dX10_init_214 rfl ?_
  refine g_mk_int (w' := (y157 Ls xs)) (r := 82) (N := 4) (y_len yk156 (by decide)) dX10_init_215 rfl rfl (Nat.le_of_ble_eq_true rfl) rfl ?_
  refine g_putr dX10_init_217 fl_X10_86 ft_10_36 rfl (fun _ => ⟨rfl, _, rfl, rfl⟩) (y_at yk157 (r := 56) (c := (10, 0)) (by decide +kernel)) ?_
  refine g_fold (w' := (y158 Ls xs)) rfl ?_
  refine g_aload_n dX10_init_220 rfl ?_
  refine g_bipush (v := -2) dX10_init_221 rfl ?_
  refine g_puti dX10_init_223 fl_X10_89 ft_10_37 (y_at yk158 (r := 56) (c := (10, 0)) (by decide +kernel)) ?_
  refine g_fold (w' := (y159 Ls xs)) rfl ?_
  refine g_aload_n dX10_init_226 rfl ?_
  refine g_bipush (v := 6) dX10_init_227 rfl ?_
  refine g_mk_int (w' := (y160 Ls xs)) (r := 83) (N := 6) (y_len yk159 (by decide)) dX10_init_229 rfl rfl (Nat.le_of_ble_eq_true rfl) rfl ?_
  refine g_putr dX10_init_231 fl_X10_93 ft_10_41 rfl (fun _ => ⟨rfl, _, rfl, rfl⟩) (y_at yk160 (r := 56) (c := (10, 0)) (by decide +kernel)) ?_
  refine g_fold (w' := (y161 Ls xs)) rfl ?_
  refine g_aload_n dX10_init_234 rfl ?_
  refine g_iconst (v := 4) dX10_init_235 rfl ?_
  refine g_mk_int (w' := (y162 Ls xs)) (r := 84) (N := 4) (y_len yk161 (by decide)) dX10_init_236 rfl rfl (Nat.le_of_ble_eq_true rfl) rfl ?_
  refine g_putr dX10_init_238 fl_X10_96 ft_10_42 rfl (fun _ => ⟨rfl, _, rfl, rfl⟩) (y_at yk162 (r := 56) (c := (10, 0)) (by decide +kernel)) ?_
  refine g_fold (w' := (y163 Ls xs)) rfl ?_
  refine g_aload_n dX10_init_241 rfl ?_
  refine g_bipush (v := 50) dX10_init_242 rfl ?_
  refine g_mk_int (w' := (y164 Ls xs)) (r := 85) (N := 50) (y_len yk163 (by decide)) dX10_init_244 rfl rfl (Nat.le_of_ble_eq_true rfl) rfl ?_
  refine g_putr dX10_init_246 fl_X10_99 ft_10_44 rfl (fun _ => ⟨rfl, _, rfl, rfl⟩) (y_at yk164 (r := 56) (c := (10, 0)) (by decide +kernel)) ?_
  refine g_fold (w' := (y165 Ls xs)) rfl ?_
  refine g_aload_n dX10_init_249 rfl ?_
  refine g_bipush (v := 24) dX10_init_250 rfl ?_
  refine g_mk_int (w' := (y166 Ls xs)) (r := 86) (N := 24) (y_len yk165 (by decide)) dX10_init_252 rfl rfl (Nat.le_of_ble_eq_true rfl) rfl ?_
  refine g_putr dX10_init_254 fl_X10_102 ft_10_46 rfl (fun _ => ⟨rfl, _, rfl, rfl⟩) (y_at yk166 (r := 56) (c := (10, 0)) (by decide +kernel)) ?_
  refine g_fold (w' := (y167 Ls xs)) rfl ?_
  refine g_aload_n dX10_init_257 rfl ?_
  refine g_bipush (v := 6) dX10_init_258 rfl ?_
  refine g_mk_int (w' := (y168 Ls xs)) (r := 87) (N := 6) (y_len yk167 (by decide)) dX10_init_260 rfl rfl (Nat.le_of_ble_eq_true rfl) rfl ?_
  refine g_dup dX10_init_262 rfl ?_
  refine g_iconst (v := 0) dX10_init_263 rfl ?_
  refine g_iconst (v := -1) dX10_init_264 rfl ?_
  refine g_iast dX10_init_265 (y_at yk168 (r := 86) (c := (20, 6)) (by decide +kernel)) (by exact vp_in_iff.mpr (by decide)) ?_
  refine g_fold (w' := (y169 Ls xs)) (by rw [show (0 : Int32).toNatClampNeg = 0 by decide]; rfl) ?_
  refine g_dup dX10_init_266 rfl ?_
  refine g_iconst (v := 1) dX10_init_267 rfl ?_
  refine g_iconst (v := -1) dX10_init_268 rfl ?_
  refine g_iast dX10_init_269 (y_at yk169 (r := 86) (c := (20, 6)) (by decide +kernel)) (by exact vp_in_iff.mpr (by decide)) ?_
  refine g_fold (w' := (y170 Ls xs)) (by rw [show (1 : Int32).toNatClampNeg = 1 by decide]; rfl) ?_
  refine g_dup dX10_init_270 rfl ?_
  refine g_iconst (v := 2) dX10_init_271 rfl ?_
  refine g_iconst (v := -1) dX10_init_272 rfl ?_
  refine g_iast dX10_init_273 (y_at yk170 (r := 86) (c := (20, 6)) (by decide +kernel)) (by exact vp_in_iff.mpr (by decide)) ?_
  refine g_fold (w' := (y171 Ls xs)) (by rw [show (2 : Int32).toNatClampNeg = 2 by decide]; rfl) ?_
  refine g_dup dX10_init_274 rfl ?_
  refine g_iconst (v := 3) dX10_init_275 rfl ?_
  refine g_iconst (v := -1) dX10_init_276 rfl ?_
  refine g_iast dX10_init_277 (y_at yk171 (r := 86) (c := (20, 6)) (by decide +kernel)) (by exact vp_in_iff.mpr (by decide)) ?_
  refine g_fold (w' := (y172 Ls xs)) (by rw [show (3 : Int32).toNatClampNeg = 3 by decide]; rfl) ?_
  refine g_dup dX10_init_278 rfl ?_
  refine g_iconst (v := 4) dX10_init_279 rfl ?_
  refine g_iconst (v := -1) dX10_init_280 rfl ?_
  refine g_iast dX10_init_281 (y_at yk172 (r := 86) (c := (20, 6)) (by decide +kernel)) (by exact vp_in_iff.mpr (by decide)) ?_
  refine g_fold (w' := (y173 Ls xs)) (by rw [show (4 : Int32).toNatClampNeg = 4 by decide]; rfl) ?_
  refine g_dup dX10_init_282 rfl ?_
  refine g_iconst (v := 5) dX10_init_283 rfl ?_
  refine g_iconst (v := -1) dX10_init_284 rfl ?_
  refine g_iast dX10_init_285 (y_at yk173 (r := 86) (c := (20, 6)) (by decide +kernel)) (by exact vp_in_iff.mpr (by decide)) ?_
  refine g_fold (w' := (y174 Ls xs)) (by rw [show (5 : Int32).toNatClampNeg = 5 by decide]; rfl) ?_
  refine g_putr dX10_init_286 fl_X10_105 ft_10_47 rfl (fun _ => ⟨rfl, _, rfl, rfl⟩) (y_at yk174 (r := 56) (c := (10, 0)) (by decide +kernel)) ?_
  refine g_fold (w' := (y175 Ls xs)) rfl ?_
  refine g_aload_n dX10_init_289 rfl ?_
  refine g_bipush (v := 6) dX10_init_290 rfl ?_
  refine g_mk_int (w' := (y176 Ls xs)) (r := 88) (N := 6) (y_len yk175 (by decide)) dX10_init_292 rfl rfl (Nat.le_of_ble_eq_true rfl) rfl ?_
  refine g_putr dX10_init_294 fl_X10_108 ft_10_48 rfl (fun _ => ⟨rfl, _, rfl, rfl⟩) (y_at yk176 (r := 56) (c := (10, 0)) (by decide +kernel)) ?_
  refine g_fold (w' := (y177 Ls xs)) rfl ?_
  refine g_aload_n dX10_init_297 rfl ?_
  refine g_sipush (v := 360) dX10_init_298 rfl ?_
  refine g_mk_long (w' := (y178 Ls xs)) (r := 89) (N := 360) (y_len yk177 (by decide)) dX10_init_301 rfl rfl (Nat.le_of_ble_eq_true rfl) rfl ?_
  refine g_putr dX10_init_303 fl_X10_111 ft_10_49 rfl (fun _ => ⟨rfl, _, rfl, rfl⟩) (y_at yk178 (r := 56) (c := (10, 0)) (by decide +kernel)) ?_
  refine g_fold (w' := (y179 Ls xs)) rfl ?_
  refine g_aload_n dX10_init_306 rfl ?_
  refine g_bipush (v := 60) dX10_init_307 rfl ?_
  refine g_mk_long (w' := (y180 Ls xs)) (r := 90) (N := 60) (y_len yk179 (by decide)) dX10_init_309 rfl rfl (Nat.le_of_ble_eq_true rfl) rfl ?_
  refine g_putr dX10_init_311 fl_X10_115 ft_10_50 rfl (fun _ => ⟨rfl, _, rfl, rfl⟩) (y_at yk180 (r := 56) (c := (10, 0)) (by decide +kernel)) ?_
  refine g_fold (w' := (y181 Ls xs)) rfl ?_
  refine g_vret dX10_init_314 rfl ⟨rfl, ?_⟩
  exact hk
/- ('c_X9_init_1', 50, 1558, 3) ('c_X10_init_17', 33, 1787, 1): worlds y1, y103, y104, y181 -/
