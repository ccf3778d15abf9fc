/-! Votes -/
theorem dX8_wins_0 : gx_d mX8_wins 0 (.iconst 0) 1 := gx_dk (by decide +kernel)
theorem dX8_wins_1 : gx_d mX8_wins 1 (.istore_n 2) 1 := gx_dk (by decide +kernel)
theorem dX8_wins_2 : gx_d mX8_wins 2 (.iconst 0) 1 := gx_dk (by decide +kernel)
theorem dX8_wins_3 : gx_d mX8_wins 3 (.istore_n 3) 1 := gx_dk (by decide +kernel)
theorem dX8_wins_4 : gx_d mX8_wins 4 (.iload_n 3) 1 := gx_dk (by decide +kernel)
theorem dX8_wins_5 : gx_d mX8_wins 5 (.aload_n 0) 1 := gx_dk (by decide +kernel)
theorem dX8_wins_6 : gx_d mX8_wins 6 (.getfield 9) 3 := gx_dk (by decide +kernel)
theorem dX8_wins_9 : gx_d mX8_wins 9 (.if_icmp .ge 26) 3 := gx_dk (by decide +kernel)
theorem dX8_wins_12 : gx_d mX8_wins 12 (.iload_n 1) 1 := gx_dk (by decide +kernel)
theorem dX8_wins_13 : gx_d mX8_wins 13 (.iload_n 3) 1 := gx_dk (by decide +kernel)
theorem dX8_wins_14 : gx_d mX8_wins 14 (.ishr) 1 := gx_dk (by decide +kernel)
theorem dX8_wins_15 : gx_d mX8_wins 15 (.iconst 1) 1 := gx_dk (by decide +kernel)
theorem dX8_wins_16 : gx_d mX8_wins 16 (.iand) 1 := gx_dk (by decide +kernel)
theorem dX8_wins_17 : gx_d mX8_wins 17 (.ifCond .eq 12) 3 := gx_dk (by decide +kernel)
theorem dX8_wins_20 : gx_d mX8_wins 20 (.iload_n 2) 1 := gx_dk (by decide +kernel)
theorem dX8_wins_21 : gx_d mX8_wins 21 (.aload_n 0) 1 := gx_dk (by decide +kernel)
theorem dX8_wins_22 : gx_d mX8_wins 22 (.iload_n 3) 1 := gx_dk (by decide +kernel)
theorem dX8_wins_23 : gx_d mX8_wins 23 (.iconst 1) 1 := gx_dk (by decide +kernel)
theorem dX8_wins_24 : gx_d mX8_wins 24 (.invokevirtual 15) 3 := gx_dk (by decide +kernel)
theorem dX8_wins_27 : gx_d mX8_wins 27 (.iadd) 1 := gx_dk (by decide +kernel)
theorem dX8_wins_28 : gx_d mX8_wins 28 (.istore_n 2) 1 := gx_dk (by decide +kernel)
theorem dX8_wins_29 : gx_d mX8_wins 29 (.iinc 3 1) 3 := gx_dk (by decide +kernel)
theorem dX8_wins_32 : gx_d mX8_wins 32 (.goto (-28)) 3 := gx_dk (by decide +kernel)
theorem dX8_wins_35 : gx_d mX8_wins 35 (.iload_n 2) 1 := gx_dk (by decide +kernel)
theorem dX8_wins_36 : gx_d mX8_wins 36 (.aload_n 0) 1 := gx_dk (by decide +kernel)
theorem dX8_wins_37 : gx_d mX8_wins 37 (.iconst 0) 1 := gx_dk (by decide +kernel)
theorem dX8_wins_38 : gx_d mX8_wins 38 (.bipush 7) 2 := gx_dk (by decide +kernel)
theorem dX8_wins_40 : gx_d mX8_wins 40 (.invokevirtual 15) 3 := gx_dk (by decide +kernel)
theorem dX8_wins_43 : gx_d mX8_wins 43 (.if_icmp .lt 7) 3 := gx_dk (by decide +kernel)
theorem dX8_wins_46 : gx_d mX8_wins 46 (.iconst 1) 1 := gx_dk (by decide +kernel)
theorem dX8_wins_47 : gx_d mX8_wins 47 (.goto 4) 3 := gx_dk (by decide +kernel)
theorem dX8_wins_50 : gx_d mX8_wins 50 (.iconst 0) 1 := gx_dk (by decide +kernel)
theorem dX8_wins_51 : gx_d mX8_wins 51 (.ireturn) 1 := gx_dk (by decide +kernel)
theorem dX8_winsBarely_0 : gx_d mX8_winsBarely 0 (.iconst 0) 1 := gx_dk (by decide +kernel)
theorem dX8_winsBarely_1 : gx_d mX8_winsBarely 1 (.istore_n 2) 1 := gx_dk (by decide +kernel)
theorem dX8_winsBarely_2 : gx_d mX8_winsBarely 2 (.iload_n 2) 1 := gx_dk (by decide +kernel)
theorem dX8_winsBarely_3 : gx_d mX8_winsBarely 3 (.aload_n 0) 1 := gx_dk (by decide +kernel)
theorem dX8_winsBarely_4 : gx_d mX8_winsBarely 4 (.getfield 9) 3 := gx_dk (by decide +kernel)
theorem dX8_winsBarely_7 : gx_d mX8_winsBarely 7 (.if_icmp .ge 33) 3 := gx_dk (by decide +kernel)
theorem dX8_winsBarely_10 : gx_d mX8_winsBarely 10 (.iload_n 1) 1 := gx_dk (by decide +kernel)
theorem dX8_winsBarely_11 : gx_d mX8_winsBarely 11 (.iload_n 2) 1 := gx_dk (by decide +kernel)
theorem dX8_winsBarely_12 : gx_d mX8_winsBarely 12 (.ishr) 1 := gx_dk (by decide +kernel)
theorem dX8_winsBarely_13 : gx_d mX8_winsBarely 13 (.iconst 1) 1 := gx_dk (by decide +kernel)
theorem dX8_winsBarely_14 : gx_d mX8_winsBarely 14 (.iand) 1 := gx_dk (by decide +kernel)
theorem dX8_winsBarely_15 : gx_d mX8_winsBarely 15 (.ifCond .eq 19) 3 := gx_dk (by decide +kernel)
theorem dX8_winsBarely_18 : gx_d mX8_winsBarely 18 (.aload_n 0) 1 := gx_dk (by decide +kernel)
theorem dX8_winsBarely_19 : gx_d mX8_winsBarely 19 (.iload_n 1) 1 := gx_dk (by decide +kernel)
theorem dX8_winsBarely_20 : gx_d mX8_winsBarely 20 (.iconst 1) 1 := gx_dk (by decide +kernel)
theorem dX8_winsBarely_21 : gx_d mX8_winsBarely 21 (.iload_n 2) 1 := gx_dk (by decide +kernel)
theorem dX8_winsBarely_22 : gx_d mX8_winsBarely 22 (.ishl) 1 := gx_dk (by decide +kernel)
theorem dX8_winsBarely_23 : gx_d mX8_winsBarely 23 (.iconst (-1)) 1 := gx_dk (by decide +kernel)
theorem dX8_winsBarely_24 : gx_d mX8_winsBarely 24 (.ixor) 1 := gx_dk (by decide +kernel)
theorem dX8_winsBarely_25 : gx_d mX8_winsBarely 25 (.iand) 1 := gx_dk (by decide +kernel)
theorem dX8_winsBarely_26 : gx_d mX8_winsBarely 26 (.invokestatic 19) 3 := gx_dk (by decide +kernel)
theorem dX8_winsBarely_29 : gx_d mX8_winsBarely 29 (.ifCond .eq 5) 3 := gx_dk (by decide +kernel)
theorem dX8_winsBarely_32 : gx_d mX8_winsBarely 32 (.iconst 0) 1 := gx_dk (by decide +kernel)
theorem dX8_winsBarely_33 : gx_d mX8_winsBarely 33 (.ireturn) 1 := gx_dk (by decide +kernel)
theorem dX8_winsBarely_34 : gx_d mX8_winsBarely 34 (.iinc 2 1) 3 := gx_dk (by decide +kernel)
theorem dX8_winsBarely_37 : gx_d mX8_winsBarely 37 (.goto (-35)) 3 := gx_dk (by decide +kernel)
theorem dX8_winsBarely_40 : gx_d mX8_winsBarely 40 (.aload_n 0) 1 := gx_dk (by decide +kernel)
theorem dX8_winsBarely_41 : gx_d mX8_winsBarely 41 (.iload_n 1) 1 := gx_dk (by decide +kernel)
theorem dX8_winsBarely_42 : gx_d mX8_winsBarely 42 (.invokestatic 19) 3 := gx_dk (by decide +kernel)
theorem dX8_winsBarely_45 : gx_d mX8_winsBarely 45 (.ireturn) 1 := gx_dk (by decide +kernel)
theorem dX8_ordersOf_0 : gx_d mX8_ordersOf 0 (.iload_n 0) 1 := gx_dk (by decide +kernel)
theorem dX8_ordersOf_1 : gx_d mX8_ordersOf 1 (.ifCond .lt 19) 3 := gx_dk (by decide +kernel)
theorem dX8_ordersOf_4 : gx_d mX8_ordersOf 4 (.iload_n 0) 1 := gx_dk (by decide +kernel)
theorem dX8_ordersOf_5 : gx_d mX8_ordersOf 5 (.getstatic 25) 3 := gx_dk (by decide +kernel)
theorem dX8_ordersOf_8 : gx_d mX8_ordersOf 8 (.arraylength) 1 := gx_dk (by decide +kernel)
theorem dX8_ordersOf_9 : gx_d mX8_ordersOf 9 (.if_icmp .ge 11) 3 := gx_dk (by decide +kernel)
theorem dX8_ordersOf_12 : gx_d mX8_ordersOf 12 (.getstatic 25) 3 := gx_dk (by decide +kernel)
theorem dX8_ordersOf_15 : gx_d mX8_ordersOf 15 (.iload_n 0) 1 := gx_dk (by decide +kernel)
theorem dX8_ordersOf_16 : gx_d mX8_ordersOf 16 (.iaload) 1 := gx_dk (by decide +kernel)
theorem dX8_ordersOf_17 : gx_d mX8_ordersOf 17 (.goto 4) 3 := gx_dk (by decide +kernel)
theorem dX8_ordersOf_20 : gx_d mX8_ordersOf 20 (.iconst 0) 1 := gx_dk (by decide +kernel)
theorem dX8_ordersOf_21 : gx_d mX8_ordersOf 21 (.ireturn) 1 := gx_dk (by decide +kernel)
theorem dX8_powerOf_0 : gx_d mX8_powerOf 0 (.iconst 0) 1 := gx_dk (by decide +kernel)
theorem dX8_powerOf_1 : gx_d mX8_powerOf 1 (.istore_n 3) 1 := gx_dk (by decide +kernel)
theorem dX8_powerOf_2 : gx_d mX8_powerOf 2 (.aload_n 0) 1 := gx_dk (by decide +kernel)
theorem dX8_powerOf_3 : gx_d mX8_powerOf 3 (.getfield 9) 3 := gx_dk (by decide +kernel)
theorem dX8_powerOf_6 : gx_d mX8_powerOf 6 (.invokestatic 29) 3 := gx_dk (by decide +kernel)
theorem dX8_powerOf_9 : gx_d mX8_powerOf 9 (.istore 4) 2 := gx_dk (by decide +kernel)
theorem dX8_powerOf_11 : gx_d mX8_powerOf 11 (.iconst 0) 1 := gx_dk (by decide +kernel)
theorem dX8_powerOf_12 : gx_d mX8_powerOf 12 (.istore 5) 2 := gx_dk (by decide +kernel)
theorem dX8_powerOf_14 : gx_d mX8_powerOf 14 (.iload 5) 2 := gx_dk (by decide +kernel)
theorem dX8_powerOf_16 : gx_d mX8_powerOf 16 (.iconst 1) 1 := gx_dk (by decide +kernel)
theorem dX8_powerOf_17 : gx_d mX8_powerOf 17 (.aload_n 0) 1 := gx_dk (by decide +kernel)
theorem dX8_powerOf_18 : gx_d mX8_powerOf 18 (.getfield 9) 3 := gx_dk (by decide +kernel)
theorem dX8_powerOf_21 : gx_d mX8_powerOf 21 (.ishl) 1 := gx_dk (by decide +kernel)
theorem dX8_powerOf_22 : gx_d mX8_powerOf 22 (.if_icmp .ge 80) 3 := gx_dk (by decide +kernel)
theorem dX8_powerOf_25 : gx_d mX8_powerOf 25 (.iload 5) 2 := gx_dk (by decide +kernel)
theorem dX8_powerOf_27 : gx_d mX8_powerOf 27 (.iload_n 1) 1 := gx_dk (by decide +kernel)
theorem dX8_powerOf_28 : gx_d mX8_powerOf 28 (.ishr) 1 := gx_dk (by decide +kernel)
theorem dX8_powerOf_29 : gx_d mX8_powerOf 29 (.iconst 1) 1 := gx_dk (by decide +kernel)
theorem dX8_powerOf_30 : gx_d mX8_powerOf 30 (.iand) 1 := gx_dk (by decide +kernel)
theorem dX8_powerOf_31 : gx_d mX8_powerOf 31 (.ifCond .ne 7) 3 := gx_dk (by decide +kernel)
theorem dX8_powerOf_34 : gx_d mX8_powerOf 34 (.iconst 1) 1 := gx_dk (by decide +kernel)
theorem dX8_powerOf_35 : gx_d mX8_powerOf 35 (.goto 4) 3 := gx_dk (by decide +kernel)
theorem dX8_powerOf_38 : gx_d mX8_powerOf 38 (.iconst 0) 1 := gx_dk (by decide +kernel)
theorem dX8_powerOf_39 : gx_d mX8_powerOf 39 (.istore 6) 2 := gx_dk (by decide +kernel)
theorem dX8_powerOf_41 : gx_d mX8_powerOf 41 (.iload 6) 2 := gx_dk (by decide +kernel)
theorem dX8_powerOf_43 : gx_d mX8_powerOf 43 (.ifCond .eq 53) 3 := gx_dk (by decide +kernel)
theorem dX8_powerOf_46 : gx_d mX8_powerOf 46 (.aload_n 0) 1 := gx_dk (by decide +kernel)
theorem dX8_powerOf_47 : gx_d mX8_powerOf 47 (.iload 5) 2 := gx_dk (by decide +kernel)
theorem dX8_powerOf_49 : gx_d mX8_powerOf 49 (.invokestatic 19) 3 := gx_dk (by decide +kernel)
theorem dX8_powerOf_52 : gx_d mX8_powerOf 52 (.ifCond .ne 44) 3 := gx_dk (by decide +kernel)
theorem dX8_powerOf_55 : gx_d mX8_powerOf 55 (.aload_n 0) 1 := gx_dk (by decide +kernel)
theorem dX8_powerOf_56 : gx_d mX8_powerOf 56 (.iload 5) 2 := gx_dk (by decide +kernel)
theorem dX8_powerOf_58 : gx_d mX8_powerOf 58 (.iconst 1) 1 := gx_dk (by decide +kernel)
theorem dX8_powerOf_59 : gx_d mX8_powerOf 59 (.iload_n 1) 1 := gx_dk (by decide +kernel)
theorem dX8_powerOf_60 : gx_d mX8_powerOf 60 (.ishl) 1 := gx_dk (by decide +kernel)
theorem dX8_powerOf_61 : gx_d mX8_powerOf 61 (.ior) 1 := gx_dk (by decide +kernel)
theorem dX8_powerOf_62 : gx_d mX8_powerOf 62 (.invokestatic 19) 3 := gx_dk (by decide +kernel)
theorem dX8_powerOf_65 : gx_d mX8_powerOf 65 (.ifCond .eq 31) 3 := gx_dk (by decide +kernel)
theorem dX8_powerOf_68 : gx_d mX8_powerOf 68 (.iload 5) 2 := gx_dk (by decide +kernel)
theorem dX8_powerOf_70 : gx_d mX8_powerOf 70 (.invokestatic 33) 3 := gx_dk (by decide +kernel)
theorem dX8_powerOf_73 : gx_d mX8_powerOf 73 (.istore 7) 2 := gx_dk (by decide +kernel)
theorem dX8_powerOf_75 : gx_d mX8_powerOf 75 (.iload_n 3) 1 := gx_dk (by decide +kernel)
theorem dX8_powerOf_76 : gx_d mX8_powerOf 76 (.iload 7) 2 := gx_dk (by decide +kernel)
theorem dX8_powerOf_78 : gx_d mX8_powerOf 78 (.invokestatic 29) 3 := gx_dk (by decide +kernel)
theorem dX8_powerOf_81 : gx_d mX8_powerOf 81 (.aload_n 0) 1 := gx_dk (by decide +kernel)
theorem dX8_powerOf_82 : gx_d mX8_powerOf 82 (.getfield 9) 3 := gx_dk (by decide +kernel)
theorem dX8_powerOf_85 : gx_d mX8_powerOf 85 (.iconst 1) 1 := gx_dk (by decide +kernel)
theorem dX8_powerOf_86 : gx_d mX8_powerOf 86 (.isub) 1 := gx_dk (by decide +kernel)
theorem dX8_powerOf_87 : gx_d mX8_powerOf 87 (.iload 7) 2 := gx_dk (by decide +kernel)
theorem dX8_powerOf_89 : gx_d mX8_powerOf 89 (.isub) 1 := gx_dk (by decide +kernel)
theorem dX8_powerOf_90 : gx_d mX8_powerOf 90 (.invokestatic 29) 3 := gx_dk (by decide +kernel)
theorem dX8_powerOf_93 : gx_d mX8_powerOf 93 (.imul) 1 := gx_dk (by decide +kernel)
theorem dX8_powerOf_94 : gx_d mX8_powerOf 94 (.iadd) 1 := gx_dk (by decide +kernel)
theorem dX8_powerOf_95 : gx_d mX8_powerOf 95 (.istore_n 3) 1 := gx_dk (by decide +kernel)
theorem dX8_powerOf_96 : gx_d mX8_powerOf 96 (.iinc 5 1) 3 := gx_dk (by decide +kernel)
theorem dX8_powerOf_99 : gx_d mX8_powerOf 99 (.goto (-85)) 3 := gx_dk (by decide +kernel)
theorem dX8_powerOf_102 : gx_d mX8_powerOf 102 (.iload_n 3) 1 := gx_dk (by decide +kernel)
theorem dX8_powerOf_103 : gx_d mX8_powerOf 103 (.iload 4) 2 := gx_dk (by decide +kernel)
theorem dX8_powerOf_105 : gx_d mX8_powerOf 105 (.invokestatic 38) 3 := gx_dk (by decide +kernel)
theorem dX8_powerOf_108 : gx_d mX8_powerOf 108 (.istore 5) 2 := gx_dk (by decide +kernel)
theorem dX8_powerOf_110 : gx_d mX8_powerOf 110 (.iload_n 2) 1 := gx_dk (by decide +kernel)
theorem dX8_powerOf_111 : gx_d mX8_powerOf 111 (.ifCond .ne 7) 3 := gx_dk (by decide +kernel)
theorem dX8_powerOf_114 : gx_d mX8_powerOf 114 (.iload_n 3) 1 := gx_dk (by decide +kernel)
theorem dX8_powerOf_115 : gx_d mX8_powerOf 115 (.goto 5) 3 := gx_dk (by decide +kernel)
theorem dX8_powerOf_118 : gx_d mX8_powerOf 118 (.iload 4) 2 := gx_dk (by decide +kernel)
theorem dX8_powerOf_120 : gx_d mX8_powerOf 120 (.istore 6) 2 := gx_dk (by decide +kernel)
theorem dX8_powerOf_122 : gx_d mX8_powerOf 122 (.iload 5) 2 := gx_dk (by decide +kernel)
theorem dX8_powerOf_124 : gx_d mX8_powerOf 124 (.iconst 1) 1 := gx_dk (by decide +kernel)
theorem dX8_powerOf_125 : gx_d mX8_powerOf 125 (.if_icmp .le 12) 3 := gx_dk (by decide +kernel)
theorem dX8_powerOf_128 : gx_d mX8_powerOf 128 (.iload 6) 2 := gx_dk (by decide +kernel)
theorem dX8_powerOf_130 : gx_d mX8_powerOf 130 (.iload 5) 2 := gx_dk (by decide +kernel)
theorem dX8_powerOf_132 : gx_d mX8_powerOf 132 (.idiv) 1 := gx_dk (by decide +kernel)
theorem dX8_powerOf_133 : gx_d mX8_powerOf 133 (.i2l) 1 := gx_dk (by decide +kernel)
theorem dX8_powerOf_134 : gx_d mX8_powerOf 134 (.goto 6) 3 := gx_dk (by decide +kernel)
theorem dX8_powerOf_137 : gx_d mX8_powerOf 137 (.iload 6) 2 := gx_dk (by decide +kernel)
theorem dX8_powerOf_139 : gx_d mX8_powerOf 139 (.i2l) 1 := gx_dk (by decide +kernel)
theorem dX8_powerOf_140 : gx_d mX8_powerOf 140 (.lreturn) 1 := gx_dk (by decide +kernel)
theorem dX8_sharedDivisor_0 : gx_d mX8_sharedDivisor 0 (.iload_n 1) 1 := gx_dk (by decide +kernel)
theorem dX8_sharedDivisor_1 : gx_d mX8_sharedDivisor 1 (.istore_n 2) 1 := gx_dk (by decide +kernel)
theorem dX8_sharedDivisor_2 : gx_d mX8_sharedDivisor 2 (.iload_n 2) 1 := gx_dk (by decide +kernel)
theorem dX8_sharedDivisor_3 : gx_d mX8_sharedDivisor 3 (.iconst 1) 1 := gx_dk (by decide +kernel)
theorem dX8_sharedDivisor_4 : gx_d mX8_sharedDivisor 4 (.if_icmp .le 23) 3 := gx_dk (by decide +kernel)
theorem dX8_sharedDivisor_7 : gx_d mX8_sharedDivisor 7 (.iload_n 0) 1 := gx_dk (by decide +kernel)
theorem dX8_sharedDivisor_8 : gx_d mX8_sharedDivisor 8 (.iload_n 2) 1 := gx_dk (by decide +kernel)
theorem dX8_sharedDivisor_9 : gx_d mX8_sharedDivisor 9 (.irem) 1 := gx_dk (by decide +kernel)
theorem dX8_sharedDivisor_10 : gx_d mX8_sharedDivisor 10 (.ifCond .ne 11) 3 := gx_dk (by decide +kernel)
theorem dX8_sharedDivisor_13 : gx_d mX8_sharedDivisor 13 (.iload_n 1) 1 := gx_dk (by decide +kernel)
theorem dX8_sharedDivisor_14 : gx_d mX8_sharedDivisor 14 (.iload_n 2) 1 := gx_dk (by decide +kernel)
theorem dX8_sharedDivisor_15 : gx_d mX8_sharedDivisor 15 (.irem) 1 := gx_dk (by decide +kernel)
theorem dX8_sharedDivisor_16 : gx_d mX8_sharedDivisor 16 (.ifCond .ne 5) 3 := gx_dk (by decide +kernel)
theorem dX8_sharedDivisor_19 : gx_d mX8_sharedDivisor 19 (.iload_n 2) 1 := gx_dk (by decide +kernel)
theorem dX8_sharedDivisor_20 : gx_d mX8_sharedDivisor 20 (.ireturn) 1 := gx_dk (by decide +kernel)
theorem dX8_sharedDivisor_21 : gx_d mX8_sharedDivisor 21 (.iinc 2 (-1)) 3 := gx_dk (by decide +kernel)
theorem dX8_sharedDivisor_24 : gx_d mX8_sharedDivisor 24 (.goto (-22)) 3 := gx_dk (by decide +kernel)
theorem dX8_sharedDivisor_27 : gx_d mX8_sharedDivisor 27 (.iconst 1) 1 := gx_dk (by decide +kernel)
theorem dX8_sharedDivisor_28 : gx_d mX8_sharedDivisor 28 (.ireturn) 1 := gx_dk (by decide +kernel)
theorem dX8_winners_0 : gx_d mX8_winners 0 (.iconst 0) 1 := gx_dk (by decide +kernel)
theorem dX8_winners_1 : gx_d mX8_winners 1 (.istore_n 2) 1 := gx_dk (by decide +kernel)
theorem dX8_winners_2 : gx_d mX8_winners 2 (.iconst 0) 1 := gx_dk (by decide +kernel)
theorem dX8_winners_3 : gx_d mX8_winners 3 (.istore_n 3) 1 := gx_dk (by decide +kernel)
theorem dX8_winners_4 : gx_d mX8_winners 4 (.bipush (-2)) 2 := gx_dk (by decide +kernel)
theorem dX8_winners_6 : gx_d mX8_winners 6 (.istore 4) 2 := gx_dk (by decide +kernel)
theorem dX8_winners_8 : gx_d mX8_winners 8 (.iconst 0) 1 := gx_dk (by decide +kernel)
theorem dX8_winners_9 : gx_d mX8_winners 9 (.istore 5) 2 := gx_dk (by decide +kernel)
theorem dX8_winners_11 : gx_d mX8_winners 11 (.aload_n 0) 1 := gx_dk (by decide +kernel)
theorem dX8_winners_12 : gx_d mX8_winners 12 (.invokevirtual 41) 3 := gx_dk (by decide +kernel)
theorem dX8_winners_15 : gx_d mX8_winners 15 (.istore 6) 2 := gx_dk (by decide +kernel)
theorem dX8_winners_17 : gx_d mX8_winners 17 (.iload 6) 2 := gx_dk (by decide +kernel)
theorem dX8_winners_19 : gx_d mX8_winners 19 (.istore 7) 2 := gx_dk (by decide +kernel)
theorem dX8_winners_21 : gx_d mX8_winners 21 (.iconst 0) 1 := gx_dk (by decide +kernel)
theorem dX8_winners_22 : gx_d mX8_winners 22 (.istore 8) 2 := gx_dk (by decide +kernel)
theorem dX8_winners_24 : gx_d mX8_winners 24 (.iload 8) 2 := gx_dk (by decide +kernel)
theorem dX8_winners_26 : gx_d mX8_winners 26 (.iload 6) 2 := gx_dk (by decide +kernel)
theorem dX8_winners_28 : gx_d mX8_winners 28 (.if_icmp .gt 63) 3 := gx_dk (by decide +kernel)
theorem dX8_winners_31 : gx_d mX8_winners 31 (.aload_n 0) 1 := gx_dk (by decide +kernel)
theorem dX8_winners_32 : gx_d mX8_winners 32 (.iload 8) 2 := gx_dk (by decide +kernel)
theorem dX8_winners_34 : gx_d mX8_winners 34 (.invokestatic 19) 3 := gx_dk (by decide +kernel)
theorem dX8_winners_37 : gx_d mX8_winners 37 (.ifCond .eq 13) 3 := gx_dk (by decide +kernel)
theorem dX8_winners_40 : gx_d mX8_winners 40 (.iinc 2 1) 3 := gx_dk (by decide +kernel)
theorem dX8_winners_43 : gx_d mX8_winners 43 (.iload 7) 2 := gx_dk (by decide +kernel)
theorem dX8_winners_45 : gx_d mX8_winners 45 (.iload 8) 2 := gx_dk (by decide +kernel)
theorem dX8_winners_47 : gx_d mX8_winners 47 (.iand) 1 := gx_dk (by decide +kernel)
theorem dX8_winners_48 : gx_d mX8_winners 48 (.istore 7) 2 := gx_dk (by decide +kernel)
theorem dX8_winners_50 : gx_d mX8_winners 50 (.aload_n 0) 1 := gx_dk (by decide +kernel)
theorem dX8_winners_51 : gx_d mX8_winners 51 (.iload 8) 2 := gx_dk (by decide +kernel)
theorem dX8_winners_53 : gx_d mX8_winners 53 (.invokestatic 45) 3 := gx_dk (by decide +kernel)
theorem dX8_winners_56 : gx_d mX8_winners 56 (.ifCond .eq 29) 3 := gx_dk (by decide +kernel)
theorem dX8_winners_59 : gx_d mX8_winners 59 (.iinc 3 1) 3 := gx_dk (by decide +kernel)
theorem dX8_winners_62 : gx_d mX8_winners 62 (.iload 4) 2 := gx_dk (by decide +kernel)
theorem dX8_winners_64 : gx_d mX8_winners 64 (.bipush (-2)) 2 := gx_dk (by decide +kernel)
theorem dX8_winners_66 : gx_d mX8_winners 66 (.if_icmp .ne 8) 3 := gx_dk (by decide +kernel)
theorem dX8_winners_69 : gx_d mX8_winners 69 (.iload 8) 2 := gx_dk (by decide +kernel)
theorem dX8_winners_71 : gx_d mX8_winners 71 (.goto 5) 3 := gx_dk (by decide +kernel)
theorem dX8_winners_74 : gx_d mX8_winners 74 (.iload 4) 2 := gx_dk (by decide +kernel)
theorem dX8_winners_76 : gx_d mX8_winners 76 (.istore 4) 2 := gx_dk (by decide +kernel)
theorem dX8_winners_78 : gx_d mX8_winners 78 (.iload 5) 2 := gx_dk (by decide +kernel)
theorem dX8_winners_80 : gx_d mX8_winners 80 (.iload 8) 2 := gx_dk (by decide +kernel)
theorem dX8_winners_82 : gx_d mX8_winners 82 (.ior) 1 := gx_dk (by decide +kernel)
theorem dX8_winners_83 : gx_d mX8_winners 83 (.istore 5) 2 := gx_dk (by decide +kernel)
theorem dX8_winners_85 : gx_d mX8_winners 85 (.iinc 8 1) 3 := gx_dk (by decide +kernel)
theorem dX8_winners_88 : gx_d mX8_winners 88 (.goto (-64)) 3 := gx_dk (by decide +kernel)
theorem dX8_winners_91 : gx_d mX8_winners 91 (.iload_n 1) 1 := gx_dk (by decide +kernel)
theorem dX8_winners_92 : gx_d mX8_winners 92 (.tableswitch 50 0 3 #[32, 34, 36, 39]) 32 := gx_dk (by decide +kernel)
theorem dX8_winners_124 : gx_d mX8_winners 124 (.iload_n 2) 1 := gx_dk (by decide +kernel)
theorem dX8_winners_125 : gx_d mX8_winners 125 (.ireturn) 1 := gx_dk (by decide +kernel)
theorem dX8_winners_126 : gx_d mX8_winners 126 (.iload_n 3) 1 := gx_dk (by decide +kernel)
theorem dX8_winners_127 : gx_d mX8_winners 127 (.ireturn) 1 := gx_dk (by decide +kernel)
theorem dX8_winners_128 : gx_d mX8_winners 128 (.iload 4) 2 := gx_dk (by decide +kernel)
theorem dX8_winners_130 : gx_d mX8_winners 130 (.ireturn) 1 := gx_dk (by decide +kernel)
theorem dX8_winners_131 : gx_d mX8_winners 131 (.iload_n 2) 1 := gx_dk (by decide +kernel)
theorem dX8_winners_132 : gx_d mX8_winners 132 (.ifCond .ne 7) 3 := gx_dk (by decide +kernel)
theorem dX8_winners_135 : gx_d mX8_winners 135 (.iconst 0) 1 := gx_dk (by decide +kernel)
theorem dX8_winners_136 : gx_d mX8_winners 136 (.goto 5) 3 := gx_dk (by decide +kernel)
theorem dX8_winners_139 : gx_d mX8_winners 139 (.iload 7) 2 := gx_dk (by decide +kernel)
theorem dX8_winners_141 : gx_d mX8_winners 141 (.ireturn) 1 := gx_dk (by decide +kernel)
theorem dX8_winners_142 : gx_d mX8_winners 142 (.iload 6) 2 := gx_dk (by decide +kernel)
theorem dX8_winners_144 : gx_d mX8_winners 144 (.iload 5) 2 := gx_dk (by decide +kernel)
theorem dX8_winners_146 : gx_d mX8_winners 146 (.iconst (-1)) 1 := gx_dk (by decide +kernel)
theorem dX8_winners_147 : gx_d mX8_winners 147 (.ixor) 1 := gx_dk (by decide +kernel)
theorem dX8_winners_148 : gx_d mX8_winners 148 (.iand) 1 := gx_dk (by decide +kernel)
theorem dX8_winners_149 : gx_d mX8_winners 149 (.ireturn) 1 := gx_dk (by decide +kernel)
theorem g_ldcw {nc ns d : Nat} {M : gx_M} {Q : Option Value → gx_W → Prop} {pc : Nat} {L st : List Value} {w : gx_W} {idx : Nat} {v : Int32} (hd : gx_d M pc (.ldc_w idx) 3) (hc : Cond.constant M.1.cls idx v ∈ gx_T) (k : gx_G nc ns d M Q (pc + 3) L (.int v :: st) w) : gx_G nc ns d M Q pc L (st) w := by
  intro D p l e R s m args below meth c H locs cells slots ls C hR hP hS hL
  exact lv_ldcw C.1 C.2.1 C.2.2.2.2.1 (C.2.2.2.2.2.1 _ hc) hd (k D p l e R s m args below meth c H locs cells slots ls C hR hP hS hL)
/-- Integer.bitCount, as it stands -/
def bc1 (x : Int32) : Int32 := x - ((x.toUInt32 >>> ((1 : Int32).toUInt32 &&& Int32.toUInt32 31)).toInt32 &&& 1431655765)
def bc2 (x : Int32) : Int32 := (x &&& 858993459) + ((x.toUInt32 >>> ((2 : Int32).toUInt32 &&& Int32.toUInt32 31)).toInt32 &&& 858993459)
def bc3 (x : Int32) : Int32 := (x + (x.toUInt32 >>> ((4 : Int32).toUInt32 &&& Int32.toUInt32 31)).toInt32) &&& 252645135
def bc4 (x : Int32) : Int32 := x + (x.toUInt32 >>> ((8 : Int32).toUInt32 &&& Int32.toUInt32 31)).toInt32
def bc5 (x : Int32) : Int32 := x + (x.toUInt32 >>> ((16 : Int32).toUInt32 &&& Int32.toUInt32 31)).toInt32
def bcount (x : Int32) : Int32 := bc5 (bc4 (bc3 (bc2 (bc1 x)))) &&& 63
/-- how many of the first six bits -/
def popc (s : Nat) : Nat := s % 2 + s / 2 % 2 + s / 4 % 2 + s / 8 % 2 + s / 16 % 2 + s / 32 % 2
theorem bcount_ok : ∀ s, s < 64 → bcount (nI s) = nI (popc s) := by decide +kernel
/-- the dust of a set's roads ahead of i; it wins; it wins, and none can be spared -/
def vt_sum (f : Nat → Int32) (s : Int32) : Nat → Int32
  | 0 => 0
  | i + 1 => if cr_out s i = true then vt_sum f s i + f (6 + i) else vt_sum f s i
def vt_wins (f : Nat → Int32) (n : Nat) (s : Int32) : Bool := decide (f 27 ≤ vt_sum f s n)
def vt_less (s : Int32) (i : Nat) : Int32 := s &&& ((1 <<< (nI i &&& 31)) ^^^ -1)
def vt_bare (f : Nat → Int32) (n : Nat) (s : Int32) : Bool := vt_wins f n s && (List.range n).all (fun i => !(cr_out s i && vt_wins f n (vt_less s i)))
theorem vt_bare_iff {f : Nat → Int32} {n : Nat} {s : Int32} : vt_bare f n s = true ↔ vt_wins f n s = true ∧ ∀ i, i < n → ¬ (cr_out s i = true ∧ vt_wins f n (vt_less s i) = true) := by
  simp only [vt_bare, Bool.and_eq_true, List.all_eq_true, List.mem_range, Bool.not_eq_true', Bool.and_eq_false_iff, not_and, Bool.not_eq_true]
  refine and_congr_right fun _ => ⟨fun h i hi h1 => ?_, fun h i hi => ?_⟩
  · rcases h i hi with q | q
    · rw [q] at h1; cases h1
    · exact q
  · cases e : cr_out s i with
    | false => exact Or.inl rfl
    | true => exact Or.inr (h i hi e)
set_option maxHeartbeats 4000000 in
theorem c_J6_bitCount_0f7a4 {d : Nat} {w : gx_W} {s : Nat} {k : Int32 → gx_W → Prop} (hd : 0 ≤ d) (hs : s < 64) (kk : k (nI (popc s)) w) : gx_C 0 0 d mJ6_bitCount_0f7a4 [.int (nI s)] w (Qi k) := by
  refine gx_C_ofF (L := [.int (nI s)]) (by decide +kernel) rfl (Nat.le_of_ble_eq_true rfl) ?_
  refine g_iload_n dJ6_bitCount_0f7a4_0 rfl ?_
  refine g_iload_n dJ6_bitCount_0f7a4_1 rfl ?_
  refine g_iconst (v := 1) dJ6_bitCount_0f7a4_2 rfl ?_
  refine g_iushr dJ6_bitCount_0f7a4_3 ?_
  refine g_ldcw dJ6_bitCount_0f7a4_4 ct_J6_265 ?_
  refine g_iand dJ6_bitCount_0f7a4_7 ?_
  refine g_isub dJ6_bitCount_0f7a4_8 ?_
  refine g_istore_n dJ6_bitCount_0f7a4_9 (Nat.le_of_ble_eq_true rfl) rfl ?_
  refine g_iload_n dJ6_bitCount_0f7a4_10 rfl ?_
  refine g_ldcw dJ6_bitCount_0f7a4_11 ct_J6_266 ?_
  refine g_iand dJ6_bitCount_0f7a4_14 ?_
  refine g_iload_n dJ6_bitCount_0f7a4_15 rfl ?_
  refine g_iconst (v := 2) dJ6_bitCount_0f7a4_16 rfl ?_
  refine g_iushr dJ6_bitCount_0f7a4_17 ?_
  refine g_ldcw dJ6_bitCount_0f7a4_18 ct_J6_266 ?_
  refine g_iand dJ6_bitCount_0f7a4_21 ?_
  refine g_iadd dJ6_bitCount_0f7a4_22 ?_
  refine g_istore_n dJ6_bitCount_0f7a4_23 (Nat.le_of_ble_eq_true rfl) rfl ?_
  refine g_iload_n dJ6_bitCount_0f7a4_24 rfl ?_
  refine g_iload_n dJ6_bitCount_0f7a4_25 rfl ?_
  refine g_iconst (v := 4) dJ6_bitCount_0f7a4_26 rfl ?_
  refine g_iushr dJ6_bitCount_0f7a4_27 ?_
  refine g_iadd dJ6_bitCount_0f7a4_28 ?_
  refine g_ldcw dJ6_bitCount_0f7a4_29 ct_J6_267 ?_
  refine g_iand dJ6_bitCount_0f7a4_32 ?_
  refine g_istore_n dJ6_bitCount_0f7a4_33 (Nat.le_of_ble_eq_true rfl) rfl ?_
  refine g_iload_n dJ6_bitCount_0f7a4_34 rfl ?_
  refine g_iload_n dJ6_bitCount_0f7a4_35 rfl ?_
  refine g_bipush (v := 8) dJ6_bitCount_0f7a4_36 rfl ?_
  refine g_iushr dJ6_bitCount_0f7a4_38 ?_
  refine g_iadd dJ6_bitCount_0f7a4_39 ?_
  refine g_istore_n dJ6_bitCount_0f7a4_40 (Nat.le_of_ble_eq_true rfl) rfl ?_
  refine g_iload_n dJ6_bitCount_0f7a4_41 rfl ?_
  refine g_iload_n dJ6_bitCount_0f7a4_42 rfl ?_
  refine g_bipush (v := 16) dJ6_bitCount_0f7a4_43 rfl ?_
  refine g_iushr dJ6_bitCount_0f7a4_45 ?_
  refine g_iadd dJ6_bitCount_0f7a4_46 ?_
  refine g_istore_n dJ6_bitCount_0f7a4_47 (Nat.le_of_ble_eq_true rfl) rfl ?_
  refine g_iload_n dJ6_bitCount_0f7a4_48 rfl ?_
  refine g_bipush (v := 63) dJ6_bitCount_0f7a4_49 rfl ?_
  refine g_iand dJ6_bitCount_0f7a4_51 ?_
  refine g_iret dJ6_bitCount_0f7a4_52 rfl ⟨_, rfl, ?_⟩
  show k (bcount (nI s)) w
  rw [bcount_ok s hs]
  exact kk
set_option maxHeartbeats 4000000 in
theorem l_X8_wins {d r a n : Nat} {w : gx_W} {s : Int32} {k : Int32 → gx_W → Prop} (hd : 2 ≤ d) (h : isCn w r a n) (kt : vt_wins (w_a w a) n s = true → k 1 w) (kf : vt_wins (w_a w a) n s = false → k 0 w) : ∀ z i : Nat, i + z = n → gx_G 0 0 d mX8_wins (Qi k) 4 [.ref r, .int s, .int (vt_sum (w_a w a) s i), .int (nI i)] [] w := by
  intro z
  induction z with
  | zero =>
    intro i hi
    have hb := h.2.2
    have e : i = n := by omega
    subst e
    refine g_iload_n dX8_wins_4 rfl ?_
    refine g_aload_n dX8_wins_5 rfl ?_
    refine g_geti dX8_wins_6 fl_X8_9 h.1.1 ?_
    refine g_icmp_ge (tgt := 35) dX8_wins_9 (by decide) (fun zc9 => ?_) (fun zc9 => ?_)
    · refine g_iload_n dX8_wins_35 rfl ?_
      refine g_aload_n dX8_wins_36 rfl ?_
      refine g_iconst (v := 0) dX8_wins_37 rfl ?_
      refine g_bipush (v := 7) dX8_wins_38 rfl ?_
      refine g_cV2i dX8_wins_40 ml_X8_15 mi_X2_number mv_X2_number h.1.1 ⟨_, rfl, rfl⟩ (Nat.le_of_ble_eq_true rfl) rfl (by omega) ?_
      refine c_number_g (q := 7) (by omega) h (by decide) (by decide) rfl ?_
      refine g_icmp_lt (tgt := 50) dX8_wins_43 (by decide) (fun zc43 => ?_) (fun zc43 => ?_)
      · refine g_iconst (v := 0) dX8_wins_50 rfl ?_
        refine g_zret dX8_wins_51 rfl (Or.inl rfl) ⟨_, rfl, ?_⟩
        exact kf (by simp only [vt_wins, decide_eq_false_iff_not]; exact Int32.not_le.mpr zc43)
      · refine g_iconst (v := 1) dX8_wins_46 rfl ?_
        refine g_goto (tgt := 51) dX8_wins_47 (by decide) ?_
        refine g_zret dX8_wins_51 rfl (Or.inr rfl) ⟨_, rfl, ?_⟩
        exact kt (by simp only [vt_wins, decide_eq_true_eq]; exact Int32.not_lt.mp zc43)
    · exact absurd (Int32.le_refl _) (by rw [h.2.1] at zc9; exact zc9)
  | succ z ih =>
    intro i hi
    have hb := h.2.2
    have hlt : i < n := by omega
    refine g_iload_n dX8_wins_4 rfl ?_
    refine g_aload_n dX8_wins_5 rfl ?_
    refine g_geti dX8_wins_6 fl_X8_9 h.1.1 ?_
    refine g_icmp_ge (tgt := 35) dX8_wins_9 (by decide) (fun zc9 => ?_) (fun zc9 => ?_)
    · exact absurd zc9 (by rw [h.2.1]; exact nI_ge hlt (by omega))
    · refine g_iload_n dX8_wins_12 rfl ?_
      refine g_iload_n dX8_wins_13 rfl ?_
      refine g_ishr dX8_wins_14 ?_
      refine g_iconst (v := 1) dX8_wins_15 rfl ?_
      refine g_iand dX8_wins_16 ?_
      refine g_if_eq (tgt := 29) dX8_wins_17 (by decide) (fun zc17 => ?_) (fun zc17 => ?_)
      · refine g_iinc dX8_wins_29 rfl rfl ?_
        refine g_goto (tgt := 4) dX8_wins_32 (by decide) ?_
        rw [nI_1']
        have e : vt_sum (w_a w a) s i = vt_sum (w_a w a) s (i + 1) := by
          unfold vt_sum
          rw [if_neg (by simp [cr_out, zc17])]
          cases i <;> rfl
        rw [e]
        exact ih (i + 1) (by omega)
      · refine g_iload_n dX8_wins_20 rfl ?_
        refine g_aload_n dX8_wins_21 rfl ?_
        refine g_iload_n dX8_wins_22 rfl ?_
        refine g_iconst (v := 1) dX8_wins_23 rfl ?_
        refine g_cV2i dX8_wins_24 ml_X8_15 mi_X2_number mv_X2_number h.1.1 ⟨_, rfl, rfl⟩ (Nat.le_of_ble_eq_true rfl) rfl (by omega) ?_
        refine c_number_r (q := 1) (m := i) (by omega) h (by decide) hlt rfl rfl ?_
        refine g_iadd dX8_wins_27 ?_
        refine g_istore_n dX8_wins_28 (Nat.le_of_ble_eq_true rfl) rfl ?_
        refine g_iinc dX8_wins_29 rfl rfl ?_
        refine g_goto (tgt := 4) dX8_wins_32 (by decide) ?_
        rw [nI_1']
        have e : vt_sum (w_a w a) s i + w_a w a (1 * 6 + i) = vt_sum (w_a w a) s (i + 1) := by
          conv => rhs; unfold vt_sum
          rw [if_pos (by simp [cr_out, zc17]), show 1 * 6 + i = 6 + i by omega]
        rw [e]
        exact ih (i + 1) (by omega)
theorem c_X8_wins {d : Nat} {w : gx_W} {r a n : Nat} {s : Int32} {k : Int32 → gx_W → Prop} (hd : 2 ≤ d) (h : isCn w r a n) (kt : vt_wins (w_a w a) n s = true → k 1 w) (kf : vt_wins (w_a w a) n s = false → k 0 w) : gx_C 0 0 d mX8_wins [.ref r, .int s] w (Qi k) := by
  refine gx_C_of' (L := [.ref r, .int s, .retAddr 0, .retAddr 0]) (by decide +kernel) rfl (Nat.le_of_ble_eq_true rfl) ?_
  refine g_iconst (v := 0) dX8_wins_0 rfl ?_
  refine g_istore_n dX8_wins_1 (Nat.le_of_ble_eq_true rfl) rfl ?_
  refine g_iconst (v := 0) dX8_wins_2 rfl ?_
  refine g_istore_n dX8_wins_3 (Nat.le_of_ble_eq_true rfl) rfl ?_
  exact l_X8_wins hd h kt kf n 0 (by omega)
set_option maxHeartbeats 4000000 in
theorem l_X8_winsBarely {d r a n : Nat} {w : gx_W} {s : Int32} {k : Int32 → gx_W → Prop} (hd : 3 ≤ d) (h : isCn w r a n) (kt : vt_bare (w_a w a) n s = true → k 1 w) (kf : vt_bare (w_a w a) n s = false → k 0 w) : ∀ z i : Nat, i + z = n → (∀ j, j < i → ¬ (cr_out s j = true ∧ vt_wins (w_a w a) n (vt_less s j) = true)) → gx_G 0 0 d mX8_winsBarely (Qi k) 2 [.ref r, .int s, .int (nI i)] [] w := by
  intro z
  induction z with
  | zero =>
    intro i hi hall
    have hb := h.2.2
    have e : i = n := by omega
    subst e
    refine g_iload_n dX8_winsBarely_2 rfl ?_
    refine g_aload_n dX8_winsBarely_3 rfl ?_
    refine g_geti dX8_winsBarely_4 fl_X8_9 h.1.1 ?_
    refine g_icmp_ge (tgt := 40) dX8_winsBarely_7 (by decide) (fun zc7 => ?_) (fun zc7 => ?_)
    · refine g_aload_n dX8_winsBarely_40 rfl ?_
      refine g_iload_n dX8_winsBarely_41 rfl ?_
      refine g_cS2i dX8_winsBarely_42 ml_X8_19 mi_X8_wins ms_X8_wins (Nat.le_of_ble_eq_true rfl) rfl (by omega) ?_
      refine c_X8_wins (by omega) h (fun e42 => ?_) (fun e42 => ?_)
      · refine g_zret dX8_winsBarely_45 rfl (Or.inr rfl) ⟨_, rfl, ?_⟩
        exact kt (vt_bare_iff.mpr ⟨e42, hall⟩)
      · refine g_zret dX8_winsBarely_45 rfl (Or.inl rfl) ⟨_, rfl, ?_⟩
        refine kf ?_
        rw [Bool.eq_false_iff]
        intro q
        rw [(vt_bare_iff.mp q).1] at e42
        cases e42
    · exact absurd (Int32.le_refl _) (by rw [h.2.1] at zc7; exact zc7)
  | succ z ih =>
    intro i hi hall
    have hb := h.2.2
    have hlt : i < n := by omega
    refine g_iload_n dX8_winsBarely_2 rfl ?_
    refine g_aload_n dX8_winsBarely_3 rfl ?_
    refine g_geti dX8_winsBarely_4 fl_X8_9 h.1.1 ?_
    refine g_icmp_ge (tgt := 40) dX8_winsBarely_7 (by decide) (fun zc7 => ?_) (fun zc7 => ?_)
    · exact absurd zc7 (by rw [h.2.1]; exact nI_ge hlt (by omega))
    · refine g_iload_n dX8_winsBarely_10 rfl ?_
      refine g_iload_n dX8_winsBarely_11 rfl ?_
      refine g_ishr dX8_winsBarely_12 ?_
      refine g_iconst (v := 1) dX8_winsBarely_13 rfl ?_
      refine g_iand dX8_winsBarely_14 ?_
      refine g_if_eq (tgt := 34) dX8_winsBarely_15 (by decide) (fun zc15 => ?_) (fun zc15 => ?_)
      · refine g_iinc dX8_winsBarely_34 rfl rfl ?_
        refine g_goto (tgt := 2) dX8_winsBarely_37 (by decide) ?_
        rw [nI_1']
        refine ih (i + 1) (by omega) (fun j hj q => ?_)
        by_cases e : j = i
        · subst e
          have q1 := q.1
          simp [cr_out, zc15] at q1
        · exact hall j (by omega) q
      · refine g_aload_n dX8_winsBarely_18 rfl ?_
        refine g_iload_n dX8_winsBarely_19 rfl ?_
        refine g_iconst (v := 1) dX8_winsBarely_20 rfl ?_
        refine g_iload_n dX8_winsBarely_21 rfl ?_
        refine g_ishl dX8_winsBarely_22 ?_
        refine g_iconst (v := -1) dX8_winsBarely_23 rfl ?_
        refine g_ixor dX8_winsBarely_24 ?_
        refine g_iand dX8_winsBarely_25 ?_
        refine g_cS2i dX8_winsBarely_26 ml_X8_19 mi_X8_wins ms_X8_wins (Nat.le_of_ble_eq_true rfl) rfl (by omega) ?_
        refine c_X8_wins (by omega) h (fun e26 => ?_) (fun e26 => ?_)
        · refine g_if_eq (tgt := 34) dX8_winsBarely_29 (by decide) (fun q => absurd q (by decide)) (fun _ => ?_)
          refine g_iconst (v := 0) dX8_winsBarely_32 rfl ?_
          refine g_zret dX8_winsBarely_33 rfl (Or.inl rfl) ⟨_, rfl, ?_⟩
          refine kf ?_
          rw [Bool.eq_false_iff]
          intro q
          exact (vt_bare_iff.mp q).2 i hlt ⟨by simp [cr_out, zc15], e26⟩
        · refine g_if_eq (tgt := 34) dX8_winsBarely_29 (by decide) (fun _ => ?_) (fun q => absurd q (by decide))
          refine g_iinc dX8_winsBarely_34 rfl rfl ?_
          refine g_goto (tgt := 2) dX8_winsBarely_37 (by decide) ?_
          rw [nI_1']
          refine ih (i + 1) (by omega) (fun j hj q => ?_)
          by_cases e : j = i
          · subst e
            have q2 := q.2
            unfold vt_less at q2
            rw [e26] at q2
            cases q2
          · exact hall j (by omega) q
theorem c_X8_winsBarely {d : Nat} {w : gx_W} {r a n : Nat} {s : Int32} {k : Int32 → gx_W → Prop} (hd : 3 ≤ d) (h : isCn w r a n) (kt : vt_bare (w_a w a) n s = true → k 1 w) (kf : vt_bare (w_a w a) n s = false → k 0 w) : gx_C 0 0 d mX8_winsBarely [.ref r, .int s] w (Qi k) := by
  refine gx_C_of' (L := [.ref r, .int s, .retAddr 0]) (by decide +kernel) rfl (Nat.le_of_ble_eq_true rfl) ?_
  refine g_iconst (v := 0) dX8_winsBarely_0 rfl ?_
  refine g_istore_n dX8_winsBarely_1 (Nat.le_of_ble_eq_true rfl) rfl ?_
  exact l_X8_winsBarely hd h kt kf n 0 (by omega) (fun j hj => by omega)
theorem c_X8_ordersOf {d : Nat} {w : gx_W} {m : Nat} {k : Int32 → gx_W → Prop} (hd : 0 ≤ d) (hT : isT w) (hm : m ≤ 6) (kk : k ((gx_tab 3).getD m 0) w) : gx_C 0 0 d mX8_ordersOf [.int (nI m)] w (Qi k) := by
  refine gx_C_of' (L := [.int (nI m)]) (by decide +kernel) rfl (Nat.le_of_ble_eq_true rfl) ?_
  have hT3 : w.1[3]? = some (30, 7) := (hT 3 (by decide) (by decide)).1
  have hv3 : w_a w 3 = fun j => (gx_tab 3).getD j 0 := (hT 3 (by decide) (by decide)).2
  refine g_iload_n dX8_ordersOf_0 rfl ?_
  refine g_if_lt (tgt := 20) dX8_ordersOf_1 (by decide) (fun zc1 => ?_) (fun zc1 => ?_)
  · refine g_iconst (v := 0) dX8_ordersOf_20 rfl ?_
    refine g_iret dX8_ordersOf_21 rfl ⟨_, rfl, ?_⟩
    exact absurd zc1 (nI_pos (by omega))
  · refine g_iload_n dX8_ordersOf_4 rfl ?_
    refine g_gets (a := 3) dX8_ordersOf_5 gs_X8_25 (by decide) (by decide) ?_
    refine g_rlen dX8_ordersOf_8 (by decide) hT3 ?_
    refine g_icmp_ge (tgt := 20) dX8_ordersOf_9 (by decide) (fun zc9 => ?_) (fun zc9 => ?_)
    · refine g_iconst (v := 0) dX8_ordersOf_20 rfl ?_
      refine g_iret dX8_ordersOf_21 rfl ⟨_, rfl, ?_⟩
      exact absurd zc9 (nI_ge (b := 7) (by omega) (by decide))
    · refine g_gets (a := 3) dX8_ordersOf_12 gs_X8_25 (by decide) (by decide) ?_
      refine g_iload_n dX8_ordersOf_15 rfl ?_
      refine g_rald dX8_ordersOf_16 (by decide) hT3 (vp_in_nI (by omega) (by decide)) ?_
      refine g_goto (tgt := 21) dX8_ordersOf_17 (by decide) ?_
      refine g_iret dX8_ordersOf_21 rfl ⟨_, rfl, ?_⟩
      rw [hv3, nI_n (by omega)]
      exact kk
