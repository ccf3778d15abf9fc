/-! Thought: object 39, had 40, first 41, longest 42, its crossing 43 with the row 44; the law object l with its four rows behind it -/
theorem dX7_init_0 : gx_d mX7_init 0 (.aload_n 0) 1 := gx_dk (by decide +kernel)
theorem dX7_init_1 : gx_d mX7_init 1 (.invokespecial 3) 3 := gx_dk (by decide +kernel)
theorem dX7_init_4 : gx_d mX7_init 4 (.aload_n 0) 1 := gx_dk (by decide +kernel)
theorem dX7_init_5 : gx_d mX7_init 5 (.bipush 6) 2 := gx_dk (by decide +kernel)
theorem dX7_init_7 : gx_d mX7_init 7 (.newarray .int) 2 := gx_dk (by decide +kernel)
theorem dX7_init_9 : gx_d mX7_init 9 (.putfield 9) 3 := gx_dk (by decide +kernel)
theorem dX7_init_12 : gx_d mX7_init 12 (.aload_n 0) 1 := gx_dk (by decide +kernel)
theorem dX7_init_13 : gx_d mX7_init 13 (.bipush 6) 2 := gx_dk (by decide +kernel)
theorem dX7_init_15 : gx_d mX7_init 15 (.newarray .int) 2 := gx_dk (by decide +kernel)
theorem dX7_init_17 : gx_d mX7_init 17 (.putfield 15) 3 := gx_dk (by decide +kernel)
theorem dX7_init_20 : gx_d mX7_init 20 (.aload_n 0) 1 := gx_dk (by decide +kernel)
theorem dX7_init_21 : gx_d mX7_init 21 (.bipush 6) 2 := gx_dk (by decide +kernel)
theorem dX7_init_23 : gx_d mX7_init 23 (.newarray .int) 2 := gx_dk (by decide +kernel)
theorem dX7_init_25 : gx_d mX7_init 25 (.putfield 18) 3 := gx_dk (by decide +kernel)
theorem dX7_init_28 : gx_d mX7_init 28 (.aload_n 0) 1 := gx_dk (by decide +kernel)
theorem dX7_init_29 : gx_d mX7_init 29 (.new 21) 3 := gx_dk (by decide +kernel)
theorem dX7_init_32 : gx_d mX7_init 32 (.dup) 1 := gx_dk (by decide +kernel)
theorem dX7_init_33 : gx_d mX7_init 33 (.aload_n 1) 1 := gx_dk (by decide +kernel)
theorem dX7_init_34 : gx_d mX7_init 34 (.invokespecial 23) 3 := gx_dk (by decide +kernel)
theorem dX7_init_37 : gx_d mX7_init 37 (.putfield 26) 3 := gx_dk (by decide +kernel)
theorem dX7_init_40 : gx_d mX7_init 40 (.return_) 1 := gx_dk (by decide +kernel)
theorem dX7_begin_0 : gx_d mX7_begin 0 (.aload_n 0) 1 := gx_dk (by decide +kernel)
theorem dX7_begin_1 : gx_d mX7_begin 1 (.getfield 26) 3 := gx_dk (by decide +kernel)
theorem dX7_begin_4 : gx_d mX7_begin 4 (.aload_n 1) 1 := gx_dk (by decide +kernel)
theorem dX7_begin_5 : gx_d mX7_begin 5 (.invokevirtual 30) 3 := gx_dk (by decide +kernel)
theorem dX7_begin_8 : gx_d mX7_begin 8 (.aload_n 0) 1 := gx_dk (by decide +kernel)
theorem dX7_begin_9 : gx_d mX7_begin 9 (.getfield 9) 3 := gx_dk (by decide +kernel)
theorem dX7_begin_12 : gx_d mX7_begin 12 (.iconst 0) 1 := gx_dk (by decide +kernel)
theorem dX7_begin_13 : gx_d mX7_begin 13 (.invokestatic 34) 3 := gx_dk (by decide +kernel)
theorem dX7_begin_16 : gx_d mX7_begin 16 (.aload_n 0) 1 := gx_dk (by decide +kernel)
theorem dX7_begin_17 : gx_d mX7_begin 17 (.getfield 15) 3 := gx_dk (by decide +kernel)
theorem dX7_begin_20 : gx_d mX7_begin 20 (.bipush (-2)) 2 := gx_dk (by decide +kernel)
theorem dX7_begin_22 : gx_d mX7_begin 22 (.invokestatic 34) 3 := gx_dk (by decide +kernel)
theorem dX7_begin_25 : gx_d mX7_begin 25 (.aload_n 0) 1 := gx_dk (by decide +kernel)
theorem dX7_begin_26 : gx_d mX7_begin 26 (.getfield 26) 3 := gx_dk (by decide +kernel)
theorem dX7_begin_29 : gx_d mX7_begin 29 (.aload_n 0) 1 := gx_dk (by decide +kernel)
theorem dX7_begin_30 : gx_d mX7_begin 30 (.getfield 18) 3 := gx_dk (by decide +kernel)
theorem dX7_begin_33 : gx_d mX7_begin 33 (.invokevirtual 40) 3 := gx_dk (by decide +kernel)
theorem dX7_begin_36 : gx_d mX7_begin 36 (.aload_n 0) 1 := gx_dk (by decide +kernel)
theorem dX7_begin_37 : gx_d mX7_begin 37 (.iconst 0) 1 := gx_dk (by decide +kernel)
theorem dX7_begin_38 : gx_d mX7_begin 38 (.putfield 44) 3 := gx_dk (by decide +kernel)
theorem dX7_begin_41 : gx_d mX7_begin 41 (.aload_n 0) 1 := gx_dk (by decide +kernel)
theorem dX7_begin_42 : gx_d mX7_begin 42 (.bipush (-2)) 2 := gx_dk (by decide +kernel)
theorem dX7_begin_44 : gx_d mX7_begin 44 (.putfield 48) 3 := gx_dk (by decide +kernel)
theorem dX7_begin_47 : gx_d mX7_begin 47 (.aload_n 0) 1 := gx_dk (by decide +kernel)
theorem dX7_begin_48 : gx_d mX7_begin 48 (.iconst 0) 1 := gx_dk (by decide +kernel)
theorem dX7_begin_49 : gx_d mX7_begin 49 (.putfield 51) 3 := gx_dk (by decide +kernel)
theorem dX7_begin_52 : gx_d mX7_begin 52 (.return_) 1 := gx_dk (by decide +kernel)
theorem dX7_waitAs_0 : gx_d mX7_waitAs 0 (.iconst 0) 1 := gx_dk (by decide +kernel)
theorem dX7_waitAs_1 : gx_d mX7_waitAs 1 (.istore_n 2) 1 := gx_dk (by decide +kernel)
theorem dX7_waitAs_2 : gx_d mX7_waitAs 2 (.iload_n 2) 1 := gx_dk (by decide +kernel)
theorem dX7_waitAs_3 : gx_d mX7_waitAs 3 (.aload_n 0) 1 := gx_dk (by decide +kernel)
theorem dX7_waitAs_4 : gx_d mX7_waitAs 4 (.getfield 26) 3 := gx_dk (by decide +kernel)
theorem dX7_waitAs_7 : gx_d mX7_waitAs 7 (.getfield 54) 3 := gx_dk (by decide +kernel)
theorem dX7_waitAs_10 : gx_d mX7_waitAs 10 (.if_icmp .ge 24) 3 := gx_dk (by decide +kernel)
theorem dX7_waitAs_13 : gx_d mX7_waitAs 13 (.aload_n 0) 1 := gx_dk (by decide +kernel)
theorem dX7_waitAs_14 : gx_d mX7_waitAs 14 (.getfield 26) 3 := gx_dk (by decide +kernel)
theorem dX7_waitAs_17 : gx_d mX7_waitAs 17 (.iload_n 2) 1 := gx_dk (by decide +kernel)
theorem dX7_waitAs_18 : gx_d mX7_waitAs 18 (.iconst 3) 1 := gx_dk (by decide +kernel)
theorem dX7_waitAs_19 : gx_d mX7_waitAs 19 (.aload_n 1) 1 := gx_dk (by decide +kernel)
theorem dX7_waitAs_20 : gx_d mX7_waitAs 20 (.iload_n 2) 1 := gx_dk (by decide +kernel)
theorem dX7_waitAs_21 : gx_d mX7_waitAs 21 (.iconst 3) 1 := gx_dk (by decide +kernel)
theorem dX7_waitAs_22 : gx_d mX7_waitAs 22 (.invokevirtual 57) 3 := gx_dk (by decide +kernel)
theorem dX7_waitAs_25 : gx_d mX7_waitAs 25 (.invokevirtual 61) 3 := gx_dk (by decide +kernel)
theorem dX7_waitAs_28 : gx_d mX7_waitAs 28 (.iinc 2 1) 3 := gx_dk (by decide +kernel)
theorem dX7_waitAs_31 : gx_d mX7_waitAs 31 (.goto (-29)) 3 := gx_dk (by decide +kernel)
theorem dX7_waitAs_34 : gx_d mX7_waitAs 34 (.return_) 1 := gx_dk (by decide +kernel)
theorem dX7_meet_0 : gx_d mX7_meet 0 (.aload_n 0) 1 := gx_dk (by decide +kernel)
theorem dX7_meet_1 : gx_d mX7_meet 1 (.getfield 26) 3 := gx_dk (by decide +kernel)
theorem dX7_meet_4 : gx_d mX7_meet 4 (.iload_n 1) 1 := gx_dk (by decide +kernel)
theorem dX7_meet_5 : gx_d mX7_meet 5 (.invokevirtual 65) 3 := gx_dk (by decide +kernel)
theorem dX7_meet_8 : gx_d mX7_meet 8 (.istore_n 2) 1 := gx_dk (by decide +kernel)
theorem dX7_meet_9 : gx_d mX7_meet 9 (.iload_n 2) 1 := gx_dk (by decide +kernel)
theorem dX7_meet_10 : gx_d mX7_meet 10 (.ifCond .lt 70) 3 := gx_dk (by decide +kernel)
theorem dX7_meet_13 : gx_d mX7_meet 13 (.iload_n 2) 1 := gx_dk (by decide +kernel)
theorem dX7_meet_14 : gx_d mX7_meet 14 (.bipush 6) 2 := gx_dk (by decide +kernel)
theorem dX7_meet_16 : gx_d mX7_meet 16 (.if_icmp .ge 64) 3 := gx_dk (by decide +kernel)
theorem dX7_meet_19 : gx_d mX7_meet 19 (.aload_n 0) 1 := gx_dk (by decide +kernel)
theorem dX7_meet_20 : gx_d mX7_meet 20 (.getfield 26) 3 := gx_dk (by decide +kernel)
theorem dX7_meet_23 : gx_d mX7_meet 23 (.iload_n 2) 1 := gx_dk (by decide +kernel)
theorem dX7_meet_24 : gx_d mX7_meet 24 (.invokevirtual 69) 3 := gx_dk (by decide +kernel)
theorem dX7_meet_27 : gx_d mX7_meet 27 (.aload_n 0) 1 := gx_dk (by decide +kernel)
theorem dX7_meet_28 : gx_d mX7_meet 28 (.dup) 1 := gx_dk (by decide +kernel)
theorem dX7_meet_29 : gx_d mX7_meet 29 (.getfield 51) 3 := gx_dk (by decide +kernel)
theorem dX7_meet_32 : gx_d mX7_meet 32 (.aload_n 0) 1 := gx_dk (by decide +kernel)
theorem dX7_meet_33 : gx_d mX7_meet 33 (.getfield 26) 3 := gx_dk (by decide +kernel)
theorem dX7_meet_36 : gx_d mX7_meet 36 (.iload_n 2) 1 := gx_dk (by decide +kernel)
theorem dX7_meet_37 : gx_d mX7_meet 37 (.iconst 2) 1 := gx_dk (by decide +kernel)
theorem dX7_meet_38 : gx_d mX7_meet 38 (.invokevirtual 57) 3 := gx_dk (by decide +kernel)
theorem dX7_meet_41 : gx_d mX7_meet 41 (.iadd) 1 := gx_dk (by decide +kernel)
theorem dX7_meet_42 : gx_d mX7_meet 42 (.putfield 51) 3 := gx_dk (by decide +kernel)
theorem dX7_meet_45 : gx_d mX7_meet 45 (.aload_n 0) 1 := gx_dk (by decide +kernel)
theorem dX7_meet_46 : gx_d mX7_meet 46 (.getfield 9) 3 := gx_dk (by decide +kernel)
theorem dX7_meet_49 : gx_d mX7_meet 49 (.iload_n 2) 1 := gx_dk (by decide +kernel)
theorem dX7_meet_50 : gx_d mX7_meet 50 (.dup2) 1 := gx_dk (by decide +kernel)
theorem dX7_meet_51 : gx_d mX7_meet 51 (.iaload) 1 := gx_dk (by decide +kernel)
theorem dX7_meet_52 : gx_d mX7_meet 52 (.iconst 1) 1 := gx_dk (by decide +kernel)
theorem dX7_meet_53 : gx_d mX7_meet 53 (.iadd) 1 := gx_dk (by decide +kernel)
theorem dX7_meet_54 : gx_d mX7_meet 54 (.iastore) 1 := gx_dk (by decide +kernel)
theorem dX7_meet_55 : gx_d mX7_meet 55 (.aload_n 0) 1 := gx_dk (by decide +kernel)
theorem dX7_meet_56 : gx_d mX7_meet 56 (.getfield 15) 3 := gx_dk (by decide +kernel)
theorem dX7_meet_59 : gx_d mX7_meet 59 (.iload_n 2) 1 := gx_dk (by decide +kernel)
theorem dX7_meet_60 : gx_d mX7_meet 60 (.iaload) 1 := gx_dk (by decide +kernel)
theorem dX7_meet_61 : gx_d mX7_meet 61 (.bipush (-2)) 2 := gx_dk (by decide +kernel)
theorem dX7_meet_63 : gx_d mX7_meet 63 (.if_icmp .ne 13) 3 := gx_dk (by decide +kernel)
theorem dX7_meet_66 : gx_d mX7_meet 66 (.aload_n 0) 1 := gx_dk (by decide +kernel)
theorem dX7_meet_67 : gx_d mX7_meet 67 (.getfield 15) 3 := gx_dk (by decide +kernel)
theorem dX7_meet_70 : gx_d mX7_meet 70 (.iload_n 2) 1 := gx_dk (by decide +kernel)
theorem dX7_meet_71 : gx_d mX7_meet 71 (.aload_n 0) 1 := gx_dk (by decide +kernel)
theorem dX7_meet_72 : gx_d mX7_meet 72 (.getfield 44) 3 := gx_dk (by decide +kernel)
theorem dX7_meet_75 : gx_d mX7_meet 75 (.iastore) 1 := gx_dk (by decide +kernel)
theorem dX7_meet_76 : gx_d mX7_meet 76 (.aload_n 0) 1 := gx_dk (by decide +kernel)
theorem dX7_meet_77 : gx_d mX7_meet 77 (.invokevirtual 73) 3 := gx_dk (by decide +kernel)
theorem dX7_meet_80 : gx_d mX7_meet 80 (.aload_n 0) 1 := gx_dk (by decide +kernel)
theorem dX7_meet_81 : gx_d mX7_meet 81 (.iload_n 2) 1 := gx_dk (by decide +kernel)
theorem dX7_meet_82 : gx_d mX7_meet 82 (.putfield 48) 3 := gx_dk (by decide +kernel)
theorem dX7_meet_85 : gx_d mX7_meet 85 (.aload_n 0) 1 := gx_dk (by decide +kernel)
theorem dX7_meet_86 : gx_d mX7_meet 86 (.dup) 1 := gx_dk (by decide +kernel)
theorem dX7_meet_87 : gx_d mX7_meet 87 (.getfield 44) 3 := gx_dk (by decide +kernel)
theorem dX7_meet_90 : gx_d mX7_meet 90 (.iconst 1) 1 := gx_dk (by decide +kernel)
theorem dX7_meet_91 : gx_d mX7_meet 91 (.iadd) 1 := gx_dk (by decide +kernel)
theorem dX7_meet_92 : gx_d mX7_meet 92 (.putfield 44) 3 := gx_dk (by decide +kernel)
theorem dX7_meet_95 : gx_d mX7_meet 95 (.iload_n 2) 1 := gx_dk (by decide +kernel)
theorem dX7_meet_96 : gx_d mX7_meet 96 (.ireturn) 1 := gx_dk (by decide +kernel)
theorem dX7_noteWaits_0 : gx_d mX7_noteWaits 0 (.iconst 0) 1 := gx_dk (by decide +kernel)
theorem dX7_noteWaits_1 : gx_d mX7_noteWaits 1 (.istore_n 1) 1 := gx_dk (by decide +kernel)
theorem dX7_noteWaits_2 : gx_d mX7_noteWaits 2 (.iload_n 1) 1 := gx_dk (by decide +kernel)
theorem dX7_noteWaits_3 : gx_d mX7_noteWaits 3 (.aload_n 0) 1 := gx_dk (by decide +kernel)
theorem dX7_noteWaits_4 : gx_d mX7_noteWaits 4 (.getfield 26) 3 := gx_dk (by decide +kernel)
theorem dX7_noteWaits_7 : gx_d mX7_noteWaits 7 (.getfield 54) 3 := gx_dk (by decide +kernel)
theorem dX7_noteWaits_10 : gx_d mX7_noteWaits 10 (.if_icmp .ge 39) 3 := gx_dk (by decide +kernel)
theorem dX7_noteWaits_13 : gx_d mX7_noteWaits 13 (.iload_n 1) 1 := gx_dk (by decide +kernel)
theorem dX7_noteWaits_14 : gx_d mX7_noteWaits 14 (.bipush 6) 2 := gx_dk (by decide +kernel)
theorem dX7_noteWaits_16 : gx_d mX7_noteWaits 16 (.if_icmp .ge 33) 3 := gx_dk (by decide +kernel)
theorem dX7_noteWaits_19 : gx_d mX7_noteWaits 19 (.aload_n 0) 1 := gx_dk (by decide +kernel)
theorem dX7_noteWaits_20 : gx_d mX7_noteWaits 20 (.getfield 18) 3 := gx_dk (by decide +kernel)
theorem dX7_noteWaits_23 : gx_d mX7_noteWaits 23 (.iload_n 1) 1 := gx_dk (by decide +kernel)
theorem dX7_noteWaits_24 : gx_d mX7_noteWaits 24 (.aload_n 0) 1 := gx_dk (by decide +kernel)
theorem dX7_noteWaits_25 : gx_d mX7_noteWaits 25 (.getfield 18) 3 := gx_dk (by decide +kernel)
theorem dX7_noteWaits_28 : gx_d mX7_noteWaits 28 (.iload_n 1) 1 := gx_dk (by decide +kernel)
theorem dX7_noteWaits_29 : gx_d mX7_noteWaits 29 (.iaload) 1 := gx_dk (by decide +kernel)
theorem dX7_noteWaits_30 : gx_d mX7_noteWaits 30 (.aload_n 0) 1 := gx_dk (by decide +kernel)
theorem dX7_noteWaits_31 : gx_d mX7_noteWaits 31 (.getfield 26) 3 := gx_dk (by decide +kernel)
theorem dX7_noteWaits_34 : gx_d mX7_noteWaits 34 (.iload_n 1) 1 := gx_dk (by decide +kernel)
theorem dX7_noteWaits_35 : gx_d mX7_noteWaits 35 (.iconst 3) 1 := gx_dk (by decide +kernel)
theorem dX7_noteWaits_36 : gx_d mX7_noteWaits 36 (.invokevirtual 57) 3 := gx_dk (by decide +kernel)
theorem dX7_noteWaits_39 : gx_d mX7_noteWaits 39 (.invokestatic 76) 3 := gx_dk (by decide +kernel)
theorem dX7_noteWaits_42 : gx_d mX7_noteWaits 42 (.iastore) 1 := gx_dk (by decide +kernel)
theorem dX7_noteWaits_43 : gx_d mX7_noteWaits 43 (.iinc 1 1) 3 := gx_dk (by decide +kernel)
theorem dX7_noteWaits_46 : gx_d mX7_noteWaits 46 (.goto (-44)) 3 := gx_dk (by decide +kernel)
theorem dX7_noteWaits_49 : gx_d mX7_noteWaits 49 (.return_) 1 := gx_dk (by decide +kernel)
theorem dX7_unlikeness_0 : gx_d mX7_unlikeness 0 (.aload_n 0) 1 := gx_dk (by decide +kernel)
theorem dX7_unlikeness_1 : gx_d mX7_unlikeness 1 (.getfield 26) 3 := gx_dk (by decide +kernel)
theorem dX7_unlikeness_4 : gx_d mX7_unlikeness 4 (.getfield 54) 3 := gx_dk (by decide +kernel)
theorem dX7_unlikeness_7 : gx_d mX7_unlikeness 7 (.ifCond .ne 5) 3 := gx_dk (by decide +kernel)
theorem dX7_unlikeness_10 : gx_d mX7_unlikeness 10 (.iconst 0) 1 := gx_dk (by decide +kernel)
theorem dX7_unlikeness_11 : gx_d mX7_unlikeness 11 (.ireturn) 1 := gx_dk (by decide +kernel)
theorem dX7_unlikeness_12 : gx_d mX7_unlikeness 12 (.aload_n 0) 1 := gx_dk (by decide +kernel)
theorem dX7_unlikeness_13 : gx_d mX7_unlikeness 13 (.getfield 9) 3 := gx_dk (by decide +kernel)
theorem dX7_unlikeness_16 : gx_d mX7_unlikeness 16 (.iconst 0) 1 := gx_dk (by decide +kernel)
theorem dX7_unlikeness_17 : gx_d mX7_unlikeness 17 (.iaload) 1 := gx_dk (by decide +kernel)
theorem dX7_unlikeness_18 : gx_d mX7_unlikeness 18 (.istore_n 1) 1 := gx_dk (by decide +kernel)
theorem dX7_unlikeness_19 : gx_d mX7_unlikeness 19 (.aload_n 0) 1 := gx_dk (by decide +kernel)
theorem dX7_unlikeness_20 : gx_d mX7_unlikeness 20 (.getfield 9) 3 := gx_dk (by decide +kernel)
theorem dX7_unlikeness_23 : gx_d mX7_unlikeness 23 (.iconst 0) 1 := gx_dk (by decide +kernel)
theorem dX7_unlikeness_24 : gx_d mX7_unlikeness 24 (.iaload) 1 := gx_dk (by decide +kernel)
theorem dX7_unlikeness_25 : gx_d mX7_unlikeness 25 (.istore_n 2) 1 := gx_dk (by decide +kernel)
theorem dX7_unlikeness_26 : gx_d mX7_unlikeness 26 (.iconst 1) 1 := gx_dk (by decide +kernel)
theorem dX7_unlikeness_27 : gx_d mX7_unlikeness 27 (.istore_n 3) 1 := gx_dk (by decide +kernel)
theorem dX7_unlikeness_28 : gx_d mX7_unlikeness 28 (.iload_n 3) 1 := gx_dk (by decide +kernel)
theorem dX7_unlikeness_29 : gx_d mX7_unlikeness 29 (.aload_n 0) 1 := gx_dk (by decide +kernel)
theorem dX7_unlikeness_30 : gx_d mX7_unlikeness 30 (.getfield 26) 3 := gx_dk (by decide +kernel)
theorem dX7_unlikeness_33 : gx_d mX7_unlikeness 33 (.getfield 54) 3 := gx_dk (by decide +kernel)
theorem dX7_unlikeness_36 : gx_d mX7_unlikeness 36 (.if_icmp .ge 37) 3 := gx_dk (by decide +kernel)
theorem dX7_unlikeness_39 : gx_d mX7_unlikeness 39 (.iload_n 3) 1 := gx_dk (by decide +kernel)
theorem dX7_unlikeness_40 : gx_d mX7_unlikeness 40 (.bipush 6) 2 := gx_dk (by decide +kernel)
theorem dX7_unlikeness_42 : gx_d mX7_unlikeness 42 (.if_icmp .ge 31) 3 := gx_dk (by decide +kernel)
theorem dX7_unlikeness_45 : gx_d mX7_unlikeness 45 (.iload_n 1) 1 := gx_dk (by decide +kernel)
theorem dX7_unlikeness_46 : gx_d mX7_unlikeness 46 (.aload_n 0) 1 := gx_dk (by decide +kernel)
theorem dX7_unlikeness_47 : gx_d mX7_unlikeness 47 (.getfield 9) 3 := gx_dk (by decide +kernel)
theorem dX7_unlikeness_50 : gx_d mX7_unlikeness 50 (.iload_n 3) 1 := gx_dk (by decide +kernel)
theorem dX7_unlikeness_51 : gx_d mX7_unlikeness 51 (.iaload) 1 := gx_dk (by decide +kernel)
theorem dX7_unlikeness_52 : gx_d mX7_unlikeness 52 (.invokestatic 76) 3 := gx_dk (by decide +kernel)
theorem dX7_unlikeness_55 : gx_d mX7_unlikeness 55 (.istore_n 1) 1 := gx_dk (by decide +kernel)
theorem dX7_unlikeness_56 : gx_d mX7_unlikeness 56 (.iload_n 2) 1 := gx_dk (by decide +kernel)
theorem dX7_unlikeness_57 : gx_d mX7_unlikeness 57 (.aload_n 0) 1 := gx_dk (by decide +kernel)
theorem dX7_unlikeness_58 : gx_d mX7_unlikeness 58 (.getfield 9) 3 := gx_dk (by decide +kernel)
theorem dX7_unlikeness_61 : gx_d mX7_unlikeness 61 (.iload_n 3) 1 := gx_dk (by decide +kernel)
theorem dX7_unlikeness_62 : gx_d mX7_unlikeness 62 (.iaload) 1 := gx_dk (by decide +kernel)
theorem dX7_unlikeness_63 : gx_d mX7_unlikeness 63 (.invokestatic 81) 3 := gx_dk (by decide +kernel)
theorem dX7_unlikeness_66 : gx_d mX7_unlikeness 66 (.istore_n 2) 1 := gx_dk (by decide +kernel)
theorem dX7_unlikeness_67 : gx_d mX7_unlikeness 67 (.iinc 3 1) 3 := gx_dk (by decide +kernel)
theorem dX7_unlikeness_70 : gx_d mX7_unlikeness 70 (.goto (-42)) 3 := gx_dk (by decide +kernel)
theorem dX7_unlikeness_73 : gx_d mX7_unlikeness 73 (.iload_n 1) 1 := gx_dk (by decide +kernel)
theorem dX7_unlikeness_74 : gx_d mX7_unlikeness 74 (.iload_n 2) 1 := gx_dk (by decide +kernel)
theorem dX7_unlikeness_75 : gx_d mX7_unlikeness 75 (.isub) 1 := gx_dk (by decide +kernel)
theorem dX7_unlikeness_76 : gx_d mX7_unlikeness 76 (.ireturn) 1 := gx_dk (by decide +kernel)
def sam (R : List Nat) (F E : List (Nat × Nat)) (w w' : gx_W) : Prop := w'.1 = w.1 ∧ (∀ k j, (k, j) ∉ F → w_i w' k j = w_i w k j) ∧ (∀ k j, (k, j) ∉ E → w_r w' k j = w_r w k j) ∧ (∀ k, k ∉ R → w_a w' k = w_a w k ∧ w_l w' k = w_l w k) ∧ w_q w' = w_q w
theorem same.sam {R : List Nat} {F E : List (Nat × Nat)} {w w' : gx_W} (h : same R F w w') : sam R F E w w' := ⟨h.1, h.2.1, fun k j _ => by rw [h.2.2.1], h.2.2.2.1, h.2.2.2.2⟩
theorem sam.tr {R : List Nat} {F E : List (Nat × Nat)} {w w' w'' : gx_W} (h : sam R F E w w') (h' : sam R F E w' w'') : sam R F E w w'' :=
  ⟨h'.1.trans h.1, fun k j q => (h'.2.1 k j q).trans (h.2.1 k j q), fun k j q => (h'.2.2.1 k j q).trans (h.2.2.1 k j q), fun k q => ⟨(h'.2.2.2.1 k q).1.trans (h.2.2.2.1 k q).1, (h'.2.2.2.1 k q).2.trans (h.2.2.2.1 k q).2⟩, h'.2.2.2.2.trans h.2.2.2.2⟩
theorem sam.wk {R R' : List Nat} {F F' E E' : List (Nat × Nat)} {w w' : gx_W} (h : sam R F E w w') (hR : ∀ k, k ∈ R → k ∈ R') (hF : ∀ q, q ∈ F → q ∈ F') (hE : ∀ q, q ∈ E → q ∈ E') : sam R' F' E' w w' :=
  ⟨h.1, fun k j q => h.2.1 k j (fun z => q (hF _ z)), fun k j q => h.2.2.1 k j (fun z => q (hE _ z)), fun k q => h.2.2.2.1 k (fun z => q (hR _ z)), h.2.2.2.2⟩
/-- the law's scratch rows and field -/
abbrev JR : List Nat := [30, 31, 35, 36]
abbrev JF : List (Nat × Nat) := [(27, 5), (32, 5)]
abbrev TR : List Nat := [40, 41, 42, 44, 30, 31, 35, 36]
abbrev TF : List (Nat × Nat) := [(39, 4), (39, 5), (39, 6), (27, 5), (32, 5)]
def isCk (w : gx_W) (r a n l N : Nat) : Prop := isCl w r a n l (l + 1) (l + 2) (l + 3) (l + 4) N ∧ (l = 27 ∨ l = 32)
theorem isCk.junk {w w' : gx_W} {l : Nat} (h : l = 27 ∨ l = 32) (hs : same [l + 3, l + 4] [(l, 5)] w w') : same JR JF w w' := by
  rcases h with rfl | rfl <;> exact hs.wk (by simp) (by simp)
theorem isCk.same {w w' : gx_W} {r a n l N : Nat} (h : isCk w r a n l N) (ha : a ∉ JR) (hs : same JR JF w w') : isCk w' r a n l N ∧ w_a w' a = w_a w a ∧ w_a w' (l + 1) = w_a w (l + 1) ∧ w_a w' (l + 2) = w_a w (l + 2) := by
  obtain ⟨⟨h1, h2, h3, h4, h5, h6, h7, h8, h9⟩, hl⟩ := h
  refine ⟨⟨⟨h1.same hs ?_, by rw [hs.2.2.1]; exact h2, h3.same hs, ?_, h5, h6, h7, h8, h9⟩, hl⟩, (hs.2.2.2.1 a ha).1, ?_, ?_⟩
  · simp
  · rw [hs.2.1 l 4 (by simp)]; exact h4
  · rcases hl with rfl | rfl <;> exact (hs.2.2.2.1 _ (by decide)).1
  · rcases hl with rfl | rfl <;> exact (hs.2.2.2.1 _ (by decide)).1
theorem cr_has_cases {N : Nat} {sg va f : Nat → Int32} {n c : Nat} (hn : n ≤ 6) : cr_has N sg va f n c = -2 ∨ ∃ t, t < n ∧ cr_has N sg va f n c = nI t := by
  unfold cr_has
  by_cases h : cr_runs f n c = true
  · rw [if_pos h]
    right
    simp only [cr_runs, Bool.and_eq_true, decide_eq_true_eq] at h
    obtain ⟨m, m1, m2⟩ := pI_cases (n := n) (by omega) (Int32.not_lt.mpr h.2.1) h.2.2
    exact ⟨m, m1, m2⟩
  · rw [if_neg h]
    cases hm : cr_most (cr_want N sg va f · c) (fun _ => false) n with
    | none => exact Or.inl rfl
    | some bm =>
      obtain ⟨b, m⟩ := bm
      exact Or.inr ⟨b, cr_most_lt hm, rfl⟩
/-- haver, by cases -/
theorem c_haver2 {d r a n l N c : Nat} {w : gx_W} {k : Int32 → gx_W → Prop} (hd : 5 ≤ d) (h : isCk w r a n l N) (hc : c < 100) (hA : cr_has N (w_a w (l + 1)) (w_a w (l + 2)) (w_a w a) n c = -2 → ∀ w', same JR JF w w' → k (-2) w') (hB : ∀ t, t < n → cr_has N (w_a w (l + 1)) (w_a w (l + 2)) (w_a w a) n c = nI t → ∀ w', same JR JF w w' → k (nI t) w') : gx_C 0 0 d mX2_haver [.ref r, .int (nI c)] w (Qi k) := by
  refine c_X2_haver hd h.1 hc (fun w' hs => ?_)
  have hj := isCk.junk h.2 hs
  rcases cr_has_cases (N := N) (sg := w_a w (l + 1)) (va := w_a w (l + 2)) (f := w_a w a) (c := c) h.1.1.2.2 with e | ⟨t, t1, t2⟩
  · rw [e]; exact hA e w' hj
  · rw [t2]; exact hB t t1 t2 w' hj
def thO (w : gx_W) : Prop := w.1[39]? = some (7, 0) ∧ w_r w 39 0 = some 43 ∧ (w_r w 39 1 = some 40 ∧ w.1[40]? = some (20, 6)) ∧ (w_r w 39 2 = some 41 ∧ w.1[41]? = some (20, 6)) ∧ (w_r w 39 3 = some 42 ∧ w.1[42]? = some (20, 6))
theorem thO.same {R : List Nat} {F : List (Nat × Nat)} {w w' : gx_W} (h : thO w) (hs : same R F w w') : thO w' := by
  unfold thO at h ⊢
  rw [hs.1, hs.2.2.1]
  exact h
def mxI (x y : Int32) : Int32 := if x < y then y else x
set_option maxHeartbeats 4000000 in
theorem l_X7_noteWaits {d n : Nat} {w : gx_W} {k : gx_W → Prop} (hd : 3 ≤ d) (h : thO w) (hc : isCn w 43 44 n) (kk : k (s_a w 42 (fun j => if j < n then mxI (w_a w 42 j) (w_a w 44 (18 + j)) else w_a w 42 j))) : ∀ z i : Nat, i + z = n → gx_G 0 0 d mX7_noteWaits (Qv k) 2 [.ref 39, .int (nI i)] [] (s_a w 42 (fun j => if j < i then mxI (w_a w 42 j) (w_a w 44 (18 + j)) else w_a w 42 j)) := by
  intro z
  induction z with
  | zero =>
    intro i hi
    have e : i = n := by omega
    subst e
    refine g_iload_n dX7_noteWaits_2 rfl ?_
    refine g_aload_n dX7_noteWaits_3 rfl ?_
    refine g_getr dX7_noteWaits_4 fl_X7_26 h.1 h.2.1 ?_
    refine g_geti dX7_noteWaits_7 fl_X7_54 hc.1.1 ?_
    refine g_icmp_ge (tgt := 49) dX7_noteWaits_10 (by decide) (fun _ => ?_) (fun q => absurd (Int32.le_refl _) (by rw [wi_sa, hc.2.1] at q; exact q))
    exact g_vret dX7_noteWaits_49 rfl ⟨rfl, kk⟩
  | succ z ih =>
    intro i hi
    have hb := hc.2.2
    have hlt : i < n := by omega
    have hi6 : vp_in (nI i) 6 := vp_in_nI (by omega) (by omega)
    have hw : isCn (s_a w 42 (fun j => if j < i then mxI (w_a w 42 j) (w_a w 44 (18 + j)) else w_a w 42 j)) 43 44 n := hc
    refine g_iload_n dX7_noteWaits_2 rfl ?_
    refine g_aload_n dX7_noteWaits_3 rfl ?_
    refine g_getr dX7_noteWaits_4 fl_X7_26 h.1 h.2.1 ?_
    refine g_geti dX7_noteWaits_7 fl_X7_54 hc.1.1 ?_
    refine g_icmp_ge (tgt := 49) dX7_noteWaits_10 (by decide) (fun zc10 => ?_) (fun zc10 => ?_)
    · refine g_vret dX7_noteWaits_49 rfl ⟨rfl, ?_⟩
      exact absurd zc10 (by rw [wi_sa, hc.2.1]; exact nI_ge hlt (by omega))
    · refine g_iload_n dX7_noteWaits_13 rfl ?_
      refine g_bipush (v := 6) dX7_noteWaits_14 rfl ?_
      refine g_icmp_ge (tgt := 49) dX7_noteWaits_16 (by decide) (fun zc16 => ?_) (fun zc16 => ?_)
      · refine g_vret dX7_noteWaits_49 rfl ⟨rfl, ?_⟩
        exact absurd zc16 (nI_ge (b := 6) (by omega) (by decide))
      · refine g_aload_n dX7_noteWaits_19 rfl ?_
        refine g_getr dX7_noteWaits_20 fl_X7_18 h.1 h.2.2.2.2.1 ?_
        refine g_iload_n dX7_noteWaits_23 rfl ?_
        refine g_aload_n dX7_noteWaits_24 rfl ?_
        refine g_getr dX7_noteWaits_25 fl_X7_18 h.1 h.2.2.2.2.1 ?_
        refine g_iload_n dX7_noteWaits_28 rfl ?_
        refine g_iald dX7_noteWaits_29 h.2.2.2.2.2 hi6 ?_
        refine g_aload_n dX7_noteWaits_30 rfl ?_
        refine g_getr dX7_noteWaits_31 fl_X7_26 h.1 h.2.1 ?_
        refine g_iload_n dX7_noteWaits_34 rfl ?_
        refine g_iconst (v := 3) dX7_noteWaits_35 rfl ?_
        refine g_cV2i dX7_noteWaits_36 ml_X7_57 mi_X2_number mv_X2_number hc.1.1 ⟨_, rfl, rfl⟩ (Nat.le_of_ble_eq_true rfl) rfl (by omega) ?_
        refine c_number_r (q := 3) (m := i) (by omega) hw (by decide) hlt rfl rfl ?_
        refine g_cS2i dX7_noteWaits_39 ml_X7_76 mi_J9_max_7cf53 ms_J9_max_7cf53 (Nat.le_of_ble_eq_true rfl) rfl (by omega) ?_
        refine c_J9_max_7cf53 (by omega) ?_
        refine g_iast dX7_noteWaits_42 h.2.2.2.2.2 hi6 ?_
        refine g_iinc dX7_noteWaits_43 rfl rfl ?_
        refine g_goto (tgt := 2) dX7_noteWaits_46 (by decide) ?_
        rw [nI_n (by omega), s_a_a, nI_1', show 3 * 6 + i = 18 + i by omega, wa_sa, if_pos rfl, wa_sa, if_neg (show ¬ (44 : Nat) = 42 by decide)]
        have e : va_up (fun j => if j < i then mxI (w_a w 42 j) (w_a w 44 (18 + j)) else w_a w 42 j) i (if (if i < i then mxI (w_a w 42 i) (w_a w 44 (18 + i)) else w_a w 42 i) < w_a w 44 (18 + i) then w_a w 44 (18 + i) else (if i < i then mxI (w_a w 42 i) (w_a w 44 (18 + i)) else w_a w 42 i)) = fun j => if j < i + 1 then mxI (w_a w 42 j) (w_a w 44 (18 + j)) else w_a w 42 j := by
          rw [if_neg (Nat.lt_irrefl i)]
          funext j
          by_cases q : j = i
          · subst q
            rw [va_up_at, if_pos (show j < j + 1 by omega)]
            rfl
          · rw [va_up_row q]
            by_cases q2 : j < i
            · rw [if_pos q2, if_pos (show j < i + 1 by omega)]
            · rw [if_neg q2, if_neg (show ¬ j < i + 1 by omega)]
        rw [e]
        exact ih (i + 1) (by omega)
theorem c_X7_noteWaits {d : Nat} {w : gx_W} {n : Nat} {k : gx_W → Prop} (hd : 3 ≤ d) (h : thO w) (hc : isCn w 43 44 n) (kk : k (s_a w 42 (fun j => if j < n then mxI (w_a w 42 j) (w_a w 44 (18 + j)) else w_a w 42 j))) : gx_C 0 0 d mX7_noteWaits [.ref 39] w (Qv k) := by
  refine gx_C_of' (L := [.ref 39, .retAddr 0]) (by decide +kernel) rfl (Nat.le_of_ble_eq_true rfl) ?_
  refine g_iconst (v := 0) dX7_noteWaits_0 rfl ?_
  refine g_istore_n dX7_noteWaits_1 (Nat.le_of_ble_eq_true rfl) rfl ?_
  have e : s_a w 42 (fun j => if j < 0 then mxI (w_a w 42 j) (w_a w 44 (18 + j)) else w_a w 42 j) = w := by
    have e2 : (fun j => if j < 0 then mxI (w_a w 42 j) (w_a w 44 (18 + j)) else w_a w 42 j) = w_a w 42 := funext fun j => if_neg (Nat.not_lt_zero j)
    rw [e2, s_a_self]
  have K := l_X7_noteWaits hd h hc kk n 0 (by omega)
  rw [e] at K
  exact K
/-- what a comer in thought who has no road leaves; one who has the road t -/
def thA (w w' : gx_W) : Prop := same JR TF w w' ∧ w_i w' 39 4 = w_i w 39 4 + 1 ∧ w_i w' 39 5 = -2 ∧ w_i w' 39 6 = w_i w 39 6
def thB (w w' : gx_W) (n t : Nat) : Prop := same TR TF w w' ∧ w_i w' 39 4 = w_i w 39 4 + 1 ∧ w_i w' 39 5 = nI t ∧ w_i w' 39 6 = w_i w 39 6 + w_a w 44 (12 + t) ∧ w_a w' 44 = cr_set (w_a w 44) n t ∧ w_a w' 40 = va_up (w_a w 40) t (w_a w 40 t + 1) ∧ w_a w' 41 = (if w_a w 41 t = -2 then va_up (w_a w 41) t (w_i w 39 4) else w_a w 41) ∧ w_a w' 42 = (fun j => if j < n then mxI (w_a w 42 j) (cr_set (w_a w 44) n t (18 + j)) else w_a w 42 j)
set_option maxHeartbeats 8000000 in
theorem c_X7_meet {d : Nat} {w : gx_W} {n l N c : Nat} {k : Int32 → gx_W → Prop} (hd : 6 ≤ d) (hT : isT w) (h : thO w) (hc : isCk w 43 44 n l N) (hco : c < 100) (hA : cr_has N (w_a w (l + 1)) (w_a w (l + 2)) (w_a w 44) n c = -2 → ∀ w', thA w w' → k (-2) w') (hB : ∀ t, t < n → cr_has N (w_a w (l + 1)) (w_a w (l + 2)) (w_a w 44) n c = nI t → ∀ w', thB w w' n t → k (nI t) w') : gx_C 0 0 d mX7_meet [.ref 39, .int (nI c)] w (Qi k) := by
  refine gx_C_of' (L := [.ref 39, .int (nI c), .retAddr 0]) (by decide +kernel) rfl (Nat.le_of_ble_eq_true rfl) ?_
  refine g_aload_n dX7_meet_0 rfl ?_
  refine g_getr dX7_meet_1 fl_X7_26 h.1 h.2.1 ?_
  refine g_iload_n dX7_meet_4 rfl ?_
  refine g_cV1i dX7_meet_5 ml_X7_65 mi_X2_haver mv_X2_haver hc.1.1.1.1 ⟨_, rfl, rfl⟩ (Nat.le_of_ble_eq_true rfl) rfl (by omega) ?_
  refine c_haver2 (by omega) hc hco (fun eR w5 hs5 => ?_) (fun t ht eR w5 hs5 => ?_)
  · have hn6 := hc.1.1.2.2
    have h5 := h.same hs5
    obtain ⟨hc5, -, -, -⟩ := hc.same (by decide) hs5
    have hT5 : isT w5 := hT.same hs5 (by decide)
    refine g_istore_n dX7_meet_8 (Nat.le_of_ble_eq_true rfl) rfl ?_
    refine g_iload_n dX7_meet_9 rfl ?_
    refine g_if_lt (tgt := 80) dX7_meet_10 (by decide) (fun _ => ?_) (fun q => absurd q (by decide))
    refine g_aload_n dX7_meet_80 rfl ?_
    refine g_iload_n dX7_meet_81 rfl ?_
    refine g_puti dX7_meet_82 fl_X7_48 ft_7_5 h5.1 ?_
    refine g_aload_n dX7_meet_85 rfl ?_
    refine g_dup dX7_meet_86 rfl ?_
    refine g_geti dX7_meet_87 fl_X7_44 h5.1 ?_
    refine g_iconst (v := 1) dX7_meet_90 rfl ?_
    refine g_iadd dX7_meet_91 ?_
    refine g_puti dX7_meet_92 fl_X7_44 ft_7_4 h5.1 ?_
    refine g_iload_n dX7_meet_95 rfl ?_
    refine g_iret dX7_meet_96 rfl ⟨_, rfl, ?_⟩
    have e4 : w_i w5 39 4 = w_i w 39 4 := hs5.2.1 39 4 (by decide)
    have e6 : w_i w5 39 6 = w_i w 39 6 := hs5.2.1 39 6 (by decide)
    have e40 : w_a w5 40 = w_a w 40 := (hs5.2.2.2.1 40 (by decide)).1
    have e41 : w_a w5 41 = w_a w 41 := (hs5.2.2.2.1 41 (by decide)).1
    have e42 : w_a w5 42 = w_a w 42 := (hs5.2.2.2.1 42 (by decide)).1
    have e44 : w_a w5 44 = w_a w 44 := (hs5.2.2.2.1 44 (by decide)).1
    refine hA eR _ ⟨?_, ?_, ?_, ?_⟩
    · refine same.si (same.si (hs5.wk (by simp) (by simp)) (by decide)) (by decide)
    · rw [wi_si, if_pos ⟨rfl, rfl⟩, wi_si, if_neg (by decide), e4]
    · rw [wi_si, if_neg (by decide), wi_si, if_pos ⟨rfl, rfl⟩]
    · rw [wi_si, if_neg (by decide), wi_si, if_neg (by decide), e6]
  · have hn6 := hc.1.1.2.2
    have h5 := h.same hs5
    obtain ⟨hc5, -, -, -⟩ := hc.same (by decide) hs5
    have hT5 : isT w5 := hT.same hs5 (by decide)
    refine g_istore_n dX7_meet_8 (Nat.le_of_ble_eq_true rfl) rfl ?_
    refine g_iload_n dX7_meet_9 rfl ?_
    refine g_if_lt (tgt := 80) dX7_meet_10 (by decide) (fun zc10 => ?_) (fun zc10 => ?_)
    · refine g_aload_n dX7_meet_80 rfl ?_
      refine g_iload_n dX7_meet_81 rfl ?_
      refine g_puti dX7_meet_82 fl_X7_48 ft_7_5 h5.1 ?_
      refine g_aload_n dX7_meet_85 rfl ?_
      refine g_dup dX7_meet_86 rfl ?_
      refine g_geti dX7_meet_87 fl_X7_44 h5.1 ?_
      refine g_iconst (v := 1) dX7_meet_90 rfl ?_
      refine g_iadd dX7_meet_91 ?_
      refine g_puti dX7_meet_92 fl_X7_44 ft_7_4 h5.1 ?_
      refine g_iload_n dX7_meet_95 rfl ?_
      refine g_iret dX7_meet_96 rfl ⟨_, rfl, ?_⟩
      exact absurd zc10 (nI_pos (by omega))
    · refine g_iload_n dX7_meet_13 rfl ?_
      refine g_bipush (v := 6) dX7_meet_14 rfl ?_
      refine g_icmp_ge (tgt := 80) dX7_meet_16 (by decide) (fun zc16 => ?_) (fun zc16 => ?_)
      · refine g_aload_n dX7_meet_80 rfl ?_
        refine g_iload_n dX7_meet_81 rfl ?_
        refine g_puti dX7_meet_82 fl_X7_48 ft_7_5 h5.1 ?_
        refine g_aload_n dX7_meet_85 rfl ?_
        refine g_dup dX7_meet_86 rfl ?_
        refine g_geti dX7_meet_87 fl_X7_44 h5.1 ?_
        refine g_iconst (v := 1) dX7_meet_90 rfl ?_
        refine g_iadd dX7_meet_91 ?_
        refine g_puti dX7_meet_92 fl_X7_44 ft_7_4 h5.1 ?_
        refine g_iload_n dX7_meet_95 rfl ?_
        refine g_iret dX7_meet_96 rfl ⟨_, rfl, ?_⟩
        exact absurd zc16 (nI_ge (b := 6) (by omega) (by decide))
      · refine g_aload_n dX7_meet_19 rfl ?_
        refine g_getr dX7_meet_20 fl_X7_26 h5.1 h5.2.1 ?_
        refine g_iload_n dX7_meet_23 rfl ?_
        refine g_cV1v dX7_meet_24 ml_X7_69 mi_X2_settle mv_X2_settle hc5.1.1.1.1 ⟨_, rfl, rfl⟩ (Nat.le_of_ble_eq_true rfl) rfl (by omega) ?_
        refine c_X2_settle (by omega) hT5 hc5.1.1 ht ?_
        have hc38 : isCn (s_a w5 44 (cr_set (w_a w5 44) n t)) 43 44 n := hc5.1.1
        have hi6 : vp_in (nI t) 6 := vp_in_nI (by omega) (by omega)
        refine g_aload_n dX7_meet_27 rfl ?_
        refine g_dup dX7_meet_28 rfl ?_
        refine g_geti dX7_meet_29 fl_X7_51 h5.1 ?_
        refine g_aload_n dX7_meet_32 rfl ?_
        refine g_getr dX7_meet_33 fl_X7_26 h5.1 h5.2.1 ?_
        refine g_iload_n dX7_meet_36 rfl ?_
        refine g_iconst (v := 2) dX7_meet_37 rfl ?_
        refine g_cV2i dX7_meet_38 ml_X7_57 mi_X2_number mv_X2_number hc5.1.1.1.1 ⟨_, rfl, rfl⟩ (Nat.le_of_ble_eq_true rfl) rfl (by omega) ?_
        refine c_number_r (q := 2) (m := t) (by omega) hc38 (by decide) ht rfl rfl ?_
        refine g_iadd dX7_meet_41 ?_
        refine g_puti dX7_meet_42 fl_X7_51 ft_7_6 h5.1 ?_
        refine g_aload_n dX7_meet_45 rfl ?_
        refine g_getr dX7_meet_46 fl_X7_9 h5.1 h5.2.2.1.1 ?_
        refine g_iload_n dX7_meet_49 rfl ?_
        refine g_dup2 dX7_meet_50 rfl rfl ?_
        refine g_iald dX7_meet_51 h5.2.2.1.2 hi6 ?_
        refine g_iconst (v := 1) dX7_meet_52 rfl ?_
        refine g_iadd dX7_meet_53 ?_
        refine g_iast dX7_meet_54 h5.2.2.1.2 hi6 ?_
        refine g_aload_n dX7_meet_55 rfl ?_
        refine g_getr dX7_meet_56 fl_X7_15 h5.1 h5.2.2.2.1.1 ?_
        refine g_iload_n dX7_meet_59 rfl ?_
        refine g_iald dX7_meet_60 h5.2.2.2.1.2 hi6 ?_
        refine g_bipush (v := -2) dX7_meet_61 rfl ?_
        refine g_icmp_ne (tgt := 76) dX7_meet_63 (by decide) (fun zc63 => ?_) (fun zc63 => ?_)
        · refine g_aload_n dX7_meet_76 rfl ?_
          have hO77 := h5
          have hc77 := hc5.1.1
          refine g_cV0v dX7_meet_77 ml_X7_73 mi_X7_noteWaits mv_X7_noteWaits h5.1 ⟨_, rfl, rfl⟩ (Nat.le_of_ble_eq_true rfl) rfl (by omega) ?_
          refine c_X7_noteWaits (by omega) hO77 hc77 ?_
          refine g_aload_n dX7_meet_80 rfl ?_
          refine g_iload_n dX7_meet_81 rfl ?_
          refine g_puti dX7_meet_82 fl_X7_48 ft_7_5 h5.1 ?_
          refine g_aload_n dX7_meet_85 rfl ?_
          refine g_dup dX7_meet_86 rfl ?_
          refine g_geti dX7_meet_87 fl_X7_44 h5.1 ?_
          refine g_iconst (v := 1) dX7_meet_90 rfl ?_
          refine g_iadd dX7_meet_91 ?_
          refine g_puti dX7_meet_92 fl_X7_44 ft_7_4 h5.1 ?_
          refine g_iload_n dX7_meet_95 rfl ?_
          refine g_iret dX7_meet_96 rfl ⟨_, rfl, ?_⟩
          have e4 : w_i w5 39 4 = w_i w 39 4 := hs5.2.1 39 4 (by decide)
          have e6 : w_i w5 39 6 = w_i w 39 6 := hs5.2.1 39 6 (by decide)
          have e40 : w_a w5 40 = w_a w 40 := (hs5.2.2.2.1 40 (by decide)).1
          have e41 : w_a w5 41 = w_a w 41 := (hs5.2.2.2.1 41 (by decide)).1
          have e42 : w_a w5 42 = w_a w 42 := (hs5.2.2.2.1 42 (by decide)).1
          have e44 : w_a w5 44 = w_a w 44 := (hs5.2.2.2.1 44 (by decide)).1
          rw [nI_n (by omega)]
          refine hB t ht eR _ ⟨?_, ?_, ?_, ?_, ?_, ?_, ?_, ?_⟩
          · refine same.si (same.si (same.sa (same.sa (same.si (same.sa (hs5.wk (by simp) (by simp)) (by decide)) (by decide)) (by decide)) (by decide)) (by decide)) (by decide)
          · simp only [wi_si, wi_sa, and_self, if_true, if_false, reduceCtorEq, and_false, false_and, Nat.reduceEqDiff]
            rw [e4]
          · simp only [wi_si, wi_sa, and_self, if_true, if_false, reduceCtorEq, and_false, false_and, Nat.reduceEqDiff]
          · simp only [wi_si, wi_sa, wa_si, wa_sa, and_self, if_true, if_false, reduceCtorEq, and_false, false_and, Nat.reduceEqDiff]
            rw [e6, e44, show 2 * 6 + t = 12 + t by omega]
            have q : cr_set (w_a w 44) n t (12 + t) = w_a w 44 (12 + t) := if_neg (by omega)
            rw [q]
          · simp only [wa_si, wa_sa, if_true, if_false, Nat.reduceEqDiff, e44]
          · simp only [wa_si, wa_sa, if_true, if_false, Nat.reduceEqDiff, e40]
          · simp only [wa_si, wa_sa, if_true, if_false, Nat.reduceEqDiff, e41, wi_si, wi_sa, reduceCtorEq, and_false, false_and, e4]
            rw [if_neg (by have q := zc63; simp only [wa_si, wa_sa, if_true, if_false, Nat.reduceEqDiff, e41, nI_n (show t < 2 ^ 31 by omega)] at q; exact q)]
          · simp only [wa_si, wa_sa, if_true, if_false, Nat.reduceEqDiff, e42, e44]
        · refine g_aload_n dX7_meet_66 rfl ?_
          refine g_getr dX7_meet_67 fl_X7_15 h5.1 h5.2.2.2.1.1 ?_
          refine g_iload_n dX7_meet_70 rfl ?_
          refine g_aload_n dX7_meet_71 rfl ?_
          refine g_geti dX7_meet_72 fl_X7_44 h5.1 ?_
          refine g_iast dX7_meet_75 h5.2.2.2.1.2 hi6 ?_
          refine g_aload_n dX7_meet_76 rfl ?_
          have hO77 := h5
          have hc77 := hc5.1.1
          refine g_cV0v dX7_meet_77 ml_X7_73 mi_X7_noteWaits mv_X7_noteWaits h5.1 ⟨_, rfl, rfl⟩ (Nat.le_of_ble_eq_true rfl) rfl (by omega) ?_
          refine c_X7_noteWaits (by omega) hO77 hc77 ?_
          refine g_aload_n dX7_meet_80 rfl ?_
          refine g_iload_n dX7_meet_81 rfl ?_
          refine g_puti dX7_meet_82 fl_X7_48 ft_7_5 h5.1 ?_
          refine g_aload_n dX7_meet_85 rfl ?_
          refine g_dup dX7_meet_86 rfl ?_
          refine g_geti dX7_meet_87 fl_X7_44 h5.1 ?_
          refine g_iconst (v := 1) dX7_meet_90 rfl ?_
          refine g_iadd dX7_meet_91 ?_
          refine g_puti dX7_meet_92 fl_X7_44 ft_7_4 h5.1 ?_
          refine g_iload_n dX7_meet_95 rfl ?_
          refine g_iret dX7_meet_96 rfl ⟨_, rfl, ?_⟩
          have e4 : w_i w5 39 4 = w_i w 39 4 := hs5.2.1 39 4 (by decide)
          have e6 : w_i w5 39 6 = w_i w 39 6 := hs5.2.1 39 6 (by decide)
          have e40 : w_a w5 40 = w_a w 40 := (hs5.2.2.2.1 40 (by decide)).1
          have e41 : w_a w5 41 = w_a w 41 := (hs5.2.2.2.1 41 (by decide)).1
          have e42 : w_a w5 42 = w_a w 42 := (hs5.2.2.2.1 42 (by decide)).1
          have e44 : w_a w5 44 = w_a w 44 := (hs5.2.2.2.1 44 (by decide)).1
          rw [nI_n (by omega)]
          refine hB t ht eR _ ⟨?_, ?_, ?_, ?_, ?_, ?_, ?_, ?_⟩
          · refine same.si (same.si (same.sa (same.sa (same.sa (same.si (same.sa (hs5.wk (by simp) (by simp)) (by decide)) (by decide)) (by decide)) (by decide)) (by decide)) (by decide)) (by decide)
          · simp only [wi_si, wi_sa, and_self, if_true, if_false, reduceCtorEq, and_false, false_and, Nat.reduceEqDiff]
            rw [e4]
          · simp only [wi_si, wi_sa, and_self, if_true, if_false, reduceCtorEq, and_false, false_and, Nat.reduceEqDiff]
          · simp only [wi_si, wi_sa, wa_si, wa_sa, and_self, if_true, if_false, reduceCtorEq, and_false, false_and, Nat.reduceEqDiff]
            rw [e6, e44, show 2 * 6 + t = 12 + t by omega]
            have q : cr_set (w_a w 44) n t (12 + t) = w_a w 44 (12 + t) := if_neg (by omega)
            rw [q]
          · simp only [wa_si, wa_sa, if_true, if_false, Nat.reduceEqDiff, e44]
          · simp only [wa_si, wa_sa, if_true, if_false, Nat.reduceEqDiff, e40]
          · simp only [wa_si, wa_sa, if_true, if_false, Nat.reduceEqDiff, e41, wi_si, wi_sa, reduceCtorEq, and_false, false_and, e4]
            rw [if_pos (by have q := zc63; simp only [wa_si, wa_sa, if_true, if_false, Nat.reduceEqDiff, e41, nI_n (show t < 2 ^ 31 by omega)] at q; exact q)]
          · simp only [wa_si, wa_sa, if_true, if_false, Nat.reduceEqDiff, e42, e44]
