/-! Bodies: object 17, kinds 18, trace 19 -/
theorem dX0_init_0 : gx_d mX0_init 0 (.aload_n 0) 1 := gx_dk (by decide +kernel)
theorem dX0_init_1 : gx_d mX0_init 1 (.invokespecial 3) 3 := gx_dk (by decide +kernel)
theorem dX0_init_4 : gx_d mX0_init 4 (.aload_n 0) 1 := gx_dk (by decide +kernel)
theorem dX0_init_5 : gx_d mX0_init 5 (.bipush 50) 2 := gx_dk (by decide +kernel)
theorem dX0_init_7 : gx_d mX0_init 7 (.newarray .int) 2 := gx_dk (by decide +kernel)
theorem dX0_init_9 : gx_d mX0_init 9 (.putfield 11) 3 := gx_dk (by decide +kernel)
theorem dX0_init_12 : gx_d mX0_init 12 (.aload_n 0) 1 := gx_dk (by decide +kernel)
theorem dX0_init_13 : gx_d mX0_init 13 (.bipush 24) 2 := gx_dk (by decide +kernel)
theorem dX0_init_15 : gx_d mX0_init 15 (.newarray .int) 2 := gx_dk (by decide +kernel)
theorem dX0_init_17 : gx_d mX0_init 17 (.putfield 15) 3 := gx_dk (by decide +kernel)
theorem dX0_init_20 : gx_d mX0_init 20 (.return_) 1 := gx_dk (by decide +kernel)
theorem dX0_isFull_0 : gx_d mX0_isFull 0 (.aload_n 0) 1 := gx_dk (by decide +kernel)
theorem dX0_isFull_1 : gx_d mX0_isFull 1 (.getfield 18) 3 := gx_dk (by decide +kernel)
theorem dX0_isFull_4 : gx_d mX0_isFull 4 (.bipush 50) 2 := gx_dk (by decide +kernel)
theorem dX0_isFull_6 : gx_d mX0_isFull 6 (.if_icmp .lt 7) 3 := gx_dk (by decide +kernel)
theorem dX0_isFull_9 : gx_d mX0_isFull 9 (.iconst 1) 1 := gx_dk (by decide +kernel)
theorem dX0_isFull_10 : gx_d mX0_isFull 10 (.goto 4) 3 := gx_dk (by decide +kernel)
theorem dX0_isFull_13 : gx_d mX0_isFull 13 (.iconst 0) 1 := gx_dk (by decide +kernel)
theorem dX0_isFull_14 : gx_d mX0_isFull 14 (.ireturn) 1 := gx_dk (by decide +kernel)
theorem dX0_isBody_0 : gx_d mX0_isBody 0 (.iload_n 1) 1 := gx_dk (by decide +kernel)
theorem dX0_isBody_1 : gx_d mX0_isBody 1 (.ifCond .lt 15) 3 := gx_dk (by decide +kernel)
theorem dX0_isBody_4 : gx_d mX0_isBody 4 (.iload_n 1) 1 := gx_dk (by decide +kernel)
theorem dX0_isBody_5 : gx_d mX0_isBody 5 (.aload_n 0) 1 := gx_dk (by decide +kernel)
theorem dX0_isBody_6 : gx_d mX0_isBody 6 (.getfield 18) 3 := gx_dk (by decide +kernel)
theorem dX0_isBody_9 : gx_d mX0_isBody 9 (.if_icmp .ge 7) 3 := gx_dk (by decide +kernel)
theorem dX0_isBody_12 : gx_d mX0_isBody 12 (.iconst 1) 1 := gx_dk (by decide +kernel)
theorem dX0_isBody_13 : gx_d mX0_isBody 13 (.goto 4) 3 := gx_dk (by decide +kernel)
theorem dX0_isBody_16 : gx_d mX0_isBody 16 (.iconst 0) 1 := gx_dk (by decide +kernel)
theorem dX0_isBody_17 : gx_d mX0_isBody 17 (.ireturn) 1 := gx_dk (by decide +kernel)
theorem dX0_kindOf_0 : gx_d mX0_kindOf 0 (.aload_n 0) 1 := gx_dk (by decide +kernel)
theorem dX0_kindOf_1 : gx_d mX0_kindOf 1 (.iload_n 1) 1 := gx_dk (by decide +kernel)
theorem dX0_kindOf_2 : gx_d mX0_kindOf 2 (.invokevirtual 22) 3 := gx_dk (by decide +kernel)
theorem dX0_kindOf_5 : gx_d mX0_kindOf 5 (.ifCond .eq 12) 3 := gx_dk (by decide +kernel)
theorem dX0_kindOf_8 : gx_d mX0_kindOf 8 (.aload_n 0) 1 := gx_dk (by decide +kernel)
theorem dX0_kindOf_9 : gx_d mX0_kindOf 9 (.getfield 11) 3 := gx_dk (by decide +kernel)
theorem dX0_kindOf_12 : gx_d mX0_kindOf 12 (.iload_n 1) 1 := gx_dk (by decide +kernel)
theorem dX0_kindOf_13 : gx_d mX0_kindOf 13 (.iaload) 1 := gx_dk (by decide +kernel)
theorem dX0_kindOf_14 : gx_d mX0_kindOf 14 (.goto 4) 3 := gx_dk (by decide +kernel)
theorem dX0_kindOf_17 : gx_d mX0_kindOf 17 (.iconst (-1)) 1 := gx_dk (by decide +kernel)
theorem dX0_kindOf_18 : gx_d mX0_kindOf 18 (.ireturn) 1 := gx_dk (by decide +kernel)
theorem dX0_add_0 : gx_d mX0_add 0 (.aload_n 0) 1 := gx_dk (by decide +kernel)
theorem dX0_add_1 : gx_d mX0_add 1 (.invokevirtual 26) 3 := gx_dk (by decide +kernel)
theorem dX0_add_4 : gx_d mX0_add 4 (.ifCond .eq 6) 3 := gx_dk (by decide +kernel)
theorem dX0_add_7 : gx_d mX0_add 7 (.bipush (-3)) 2 := gx_dk (by decide +kernel)
theorem dX0_add_9 : gx_d mX0_add 9 (.ireturn) 1 := gx_dk (by decide +kernel)
theorem dX0_add_10 : gx_d mX0_add 10 (.aload_n 0) 1 := gx_dk (by decide +kernel)
theorem dX0_add_11 : gx_d mX0_add 11 (.getfield 11) 3 := gx_dk (by decide +kernel)
theorem dX0_add_14 : gx_d mX0_add 14 (.aload_n 0) 1 := gx_dk (by decide +kernel)
theorem dX0_add_15 : gx_d mX0_add 15 (.getfield 18) 3 := gx_dk (by decide +kernel)
theorem dX0_add_18 : gx_d mX0_add 18 (.iload_n 1) 1 := gx_dk (by decide +kernel)
theorem dX0_add_19 : gx_d mX0_add 19 (.iastore) 1 := gx_dk (by decide +kernel)
theorem dX0_add_20 : gx_d mX0_add 20 (.aload_n 0) 1 := gx_dk (by decide +kernel)
theorem dX0_add_21 : gx_d mX0_add 21 (.dup) 1 := gx_dk (by decide +kernel)
theorem dX0_add_22 : gx_d mX0_add 22 (.getfield 18) 3 := gx_dk (by decide +kernel)
theorem dX0_add_25 : gx_d mX0_add 25 (.iconst 1) 1 := gx_dk (by decide +kernel)
theorem dX0_add_26 : gx_d mX0_add 26 (.iadd) 1 := gx_dk (by decide +kernel)
theorem dX0_add_27 : gx_d mX0_add 27 (.putfield 18) 3 := gx_dk (by decide +kernel)
theorem dX0_add_30 : gx_d mX0_add 30 (.aload_n 0) 1 := gx_dk (by decide +kernel)
theorem dX0_add_31 : gx_d mX0_add 31 (.getfield 18) 3 := gx_dk (by decide +kernel)
theorem dX0_add_34 : gx_d mX0_add 34 (.iconst 1) 1 := gx_dk (by decide +kernel)
theorem dX0_add_35 : gx_d mX0_add 35 (.isub) 1 := gx_dk (by decide +kernel)
theorem dX0_add_36 : gx_d mX0_add 36 (.ireturn) 1 := gx_dk (by decide +kernel)
theorem dX0_traced_0 : gx_d mX0_traced 0 (.iload_n 1) 1 := gx_dk (by decide +kernel)
theorem dX0_traced_1 : gx_d mX0_traced 1 (.ifCond .lt 26) 3 := gx_dk (by decide +kernel)
theorem dX0_traced_4 : gx_d mX0_traced 4 (.iload_n 1) 1 := gx_dk (by decide +kernel)
theorem dX0_traced_5 : gx_d mX0_traced 5 (.aload_n 0) 1 := gx_dk (by decide +kernel)
theorem dX0_traced_6 : gx_d mX0_traced 6 (.getfield 30) 3 := gx_dk (by decide +kernel)
theorem dX0_traced_9 : gx_d mX0_traced 9 (.if_icmp .ge 18) 3 := gx_dk (by decide +kernel)
theorem dX0_traced_12 : gx_d mX0_traced 12 (.iload_n 1) 1 := gx_dk (by decide +kernel)
theorem dX0_traced_13 : gx_d mX0_traced 13 (.bipush 24) 2 := gx_dk (by decide +kernel)
theorem dX0_traced_15 : gx_d mX0_traced 15 (.if_icmp .ge 12) 3 := gx_dk (by decide +kernel)
theorem dX0_traced_18 : gx_d mX0_traced 18 (.aload_n 0) 1 := gx_dk (by decide +kernel)
theorem dX0_traced_19 : gx_d mX0_traced 19 (.getfield 15) 3 := gx_dk (by decide +kernel)
theorem dX0_traced_22 : gx_d mX0_traced 22 (.iload_n 1) 1 := gx_dk (by decide +kernel)
theorem dX0_traced_23 : gx_d mX0_traced 23 (.iaload) 1 := gx_dk (by decide +kernel)
theorem dX0_traced_24 : gx_d mX0_traced 24 (.goto 4) 3 := gx_dk (by decide +kernel)
theorem dX0_traced_27 : gx_d mX0_traced 27 (.iconst (-1)) 1 := gx_dk (by decide +kernel)
theorem dX0_traced_28 : gx_d mX0_traced 28 (.ireturn) 1 := gx_dk (by decide +kernel)
theorem dX0_above_0 : gx_d mX0_above 0 (.iload_n 0) 1 := gx_dk (by decide +kernel)
theorem dX0_above_1 : gx_d mX0_above 1 (.ifCond .lt 17) 3 := gx_dk (by decide +kernel)
theorem dX0_above_4 : gx_d mX0_above 4 (.iload_n 0) 1 := gx_dk (by decide +kernel)
theorem dX0_above_5 : gx_d mX0_above 5 (.bipush 8) 2 := gx_dk (by decide +kernel)
theorem dX0_above_7 : gx_d mX0_above 7 (.if_icmp .ge 11) 3 := gx_dk (by decide +kernel)
theorem dX0_above_10 : gx_d mX0_above 10 (.getstatic 33) 3 := gx_dk (by decide +kernel)
theorem dX0_above_13 : gx_d mX0_above 13 (.iload_n 0) 1 := gx_dk (by decide +kernel)
theorem dX0_above_14 : gx_d mX0_above 14 (.iaload) 1 := gx_dk (by decide +kernel)
theorem dX0_above_15 : gx_d mX0_above 15 (.goto 4) 3 := gx_dk (by decide +kernel)
theorem dX0_above_18 : gx_d mX0_above 18 (.iconst (-1)) 1 := gx_dk (by decide +kernel)
theorem dX0_above_19 : gx_d mX0_above 19 (.ireturn) 1 := gx_dk (by decide +kernel)
theorem dX0_isUnder_0 : gx_d mX0_isUnder 0 (.iload_n 0) 1 := gx_dk (by decide +kernel)
theorem dX0_isUnder_1 : gx_d mX0_isUnder 1 (.istore_n 2) 1 := gx_dk (by decide +kernel)
theorem dX0_isUnder_2 : gx_d mX0_isUnder 2 (.iconst 0) 1 := gx_dk (by decide +kernel)
theorem dX0_isUnder_3 : gx_d mX0_isUnder 3 (.istore_n 3) 1 := gx_dk (by decide +kernel)
theorem dX0_isUnder_4 : gx_d mX0_isUnder 4 (.iload_n 3) 1 := gx_dk (by decide +kernel)
theorem dX0_isUnder_5 : gx_d mX0_isUnder 5 (.bipush 8) 2 := gx_dk (by decide +kernel)
theorem dX0_isUnder_7 : gx_d mX0_isUnder 7 (.if_icmp .ge 25) 3 := gx_dk (by decide +kernel)
theorem dX0_isUnder_10 : gx_d mX0_isUnder 10 (.iload_n 2) 1 := gx_dk (by decide +kernel)
theorem dX0_isUnder_11 : gx_d mX0_isUnder 11 (.ifCond .lt 21) 3 := gx_dk (by decide +kernel)
theorem dX0_isUnder_14 : gx_d mX0_isUnder 14 (.iload_n 2) 1 := gx_dk (by decide +kernel)
theorem dX0_isUnder_15 : gx_d mX0_isUnder 15 (.iload_n 1) 1 := gx_dk (by decide +kernel)
theorem dX0_isUnder_16 : gx_d mX0_isUnder 16 (.if_icmp .ne 5) 3 := gx_dk (by decide +kernel)
theorem dX0_isUnder_19 : gx_d mX0_isUnder 19 (.iconst 1) 1 := gx_dk (by decide +kernel)
theorem dX0_isUnder_20 : gx_d mX0_isUnder 20 (.ireturn) 1 := gx_dk (by decide +kernel)
theorem dX0_isUnder_21 : gx_d mX0_isUnder 21 (.iload_n 2) 1 := gx_dk (by decide +kernel)
theorem dX0_isUnder_22 : gx_d mX0_isUnder 22 (.invokestatic 36) 3 := gx_dk (by decide +kernel)
theorem dX0_isUnder_25 : gx_d mX0_isUnder 25 (.istore_n 2) 1 := gx_dk (by decide +kernel)
theorem dX0_isUnder_26 : gx_d mX0_isUnder 26 (.iinc 3 1) 3 := gx_dk (by decide +kernel)
theorem dX0_isUnder_29 : gx_d mX0_isUnder 29 (.goto (-25)) 3 := gx_dk (by decide +kernel)
theorem dX0_isUnder_32 : gx_d mX0_isUnder 32 (.iconst 0) 1 := gx_dk (by decide +kernel)
theorem dX0_isUnder_33 : gx_d mX0_isUnder 33 (.ireturn) 1 := gx_dk (by decide +kernel)
theorem dX0_perform_0 : gx_d mX0_perform 0 (.aload_n 0) 1 := gx_dk (by decide +kernel)
theorem dX0_perform_1 : gx_d mX0_perform 1 (.iconst 0) 1 := gx_dk (by decide +kernel)
theorem dX0_perform_2 : gx_d mX0_perform 2 (.putfield 30) 3 := gx_dk (by decide +kernel)
theorem dX0_perform_5 : gx_d mX0_perform 5 (.aload_n 0) 1 := gx_dk (by decide +kernel)
theorem dX0_perform_6 : gx_d mX0_perform 6 (.iload_n 1) 1 := gx_dk (by decide +kernel)
theorem dX0_perform_7 : gx_d mX0_perform 7 (.invokevirtual 22) 3 := gx_dk (by decide +kernel)
theorem dX0_perform_10 : gx_d mX0_perform 10 (.ifCond .eq 29) 3 := gx_dk (by decide +kernel)
theorem dX0_perform_13 : gx_d mX0_perform 13 (.iload_n 2) 1 := gx_dk (by decide +kernel)
theorem dX0_perform_14 : gx_d mX0_perform 14 (.ifCond .lt 25) 3 := gx_dk (by decide +kernel)
theorem dX0_perform_17 : gx_d mX0_perform 17 (.iload_n 2) 1 := gx_dk (by decide +kernel)
theorem dX0_perform_18 : gx_d mX0_perform 18 (.iconst 4) 1 := gx_dk (by decide +kernel)
theorem dX0_perform_19 : gx_d mX0_perform 19 (.if_icmp .ge 20) 3 := gx_dk (by decide +kernel)
theorem dX0_perform_22 : gx_d mX0_perform 22 (.aload_n 0) 1 := gx_dk (by decide +kernel)
theorem dX0_perform_23 : gx_d mX0_perform 23 (.iload_n 1) 1 := gx_dk (by decide +kernel)
theorem dX0_perform_24 : gx_d mX0_perform 24 (.iload_n 2) 1 := gx_dk (by decide +kernel)
theorem dX0_perform_25 : gx_d mX0_perform 25 (.aload_n 0) 1 := gx_dk (by decide +kernel)
theorem dX0_perform_26 : gx_d mX0_perform 26 (.getfield 11) 3 := gx_dk (by decide +kernel)
theorem dX0_perform_29 : gx_d mX0_perform 29 (.iload_n 1) 1 := gx_dk (by decide +kernel)
theorem dX0_perform_30 : gx_d mX0_perform 30 (.iaload) 1 := gx_dk (by decide +kernel)
theorem dX0_perform_31 : gx_d mX0_perform 31 (.iload_n 3) 1 := gx_dk (by decide +kernel)
theorem dX0_perform_32 : gx_d mX0_perform 32 (.iconst 0) 1 := gx_dk (by decide +kernel)
theorem dX0_perform_33 : gx_d mX0_perform 33 (.invokevirtual 40) 3 := gx_dk (by decide +kernel)
theorem dX0_perform_36 : gx_d mX0_perform 36 (.goto 4) 3 := gx_dk (by decide +kernel)
theorem dX0_perform_39 : gx_d mX0_perform 39 (.iconst 0) 1 := gx_dk (by decide +kernel)
theorem dX0_perform_40 : gx_d mX0_perform 40 (.ireturn) 1 := gx_dk (by decide +kernel)
theorem dX0_kindWith_0 : gx_d mX0_kindWith 0 (.iload_n 1) 1 := gx_dk (by decide +kernel)
theorem dX0_kindWith_1 : gx_d mX0_kindWith 1 (.istore_n 2) 1 := gx_dk (by decide +kernel)
theorem dX0_kindWith_2 : gx_d mX0_kindWith 2 (.iconst 0) 1 := gx_dk (by decide +kernel)
theorem dX0_kindWith_3 : gx_d mX0_kindWith 3 (.istore_n 3) 1 := gx_dk (by decide +kernel)
theorem dX0_kindWith_4 : gx_d mX0_kindWith 4 (.iload_n 3) 1 := gx_dk (by decide +kernel)
theorem dX0_kindWith_5 : gx_d mX0_kindWith 5 (.bipush 8) 2 := gx_dk (by decide +kernel)
theorem dX0_kindWith_7 : gx_d mX0_kindWith 7 (.if_icmp .ge 30) 3 := gx_dk (by decide +kernel)
theorem dX0_kindWith_10 : gx_d mX0_kindWith 10 (.iload_n 2) 1 := gx_dk (by decide +kernel)
theorem dX0_kindWith_11 : gx_d mX0_kindWith 11 (.ifCond .lt 26) 3 := gx_dk (by decide +kernel)
theorem dX0_kindWith_14 : gx_d mX0_kindWith 14 (.getstatic 44) 3 := gx_dk (by decide +kernel)
theorem dX0_kindWith_17 : gx_d mX0_kindWith 17 (.iload_n 2) 1 := gx_dk (by decide +kernel)
theorem dX0_kindWith_18 : gx_d mX0_kindWith 18 (.iconst 4) 1 := gx_dk (by decide +kernel)
theorem dX0_kindWith_19 : gx_d mX0_kindWith 19 (.imul) 1 := gx_dk (by decide +kernel)
theorem dX0_kindWith_20 : gx_d mX0_kindWith 20 (.iload_n 0) 1 := gx_dk (by decide +kernel)
theorem dX0_kindWith_21 : gx_d mX0_kindWith 21 (.iadd) 1 := gx_dk (by decide +kernel)
theorem dX0_kindWith_22 : gx_d mX0_kindWith 22 (.iaload) 1 := gx_dk (by decide +kernel)
theorem dX0_kindWith_23 : gx_d mX0_kindWith 23 (.ifCond .ne 14) 3 := gx_dk (by decide +kernel)
theorem dX0_kindWith_26 : gx_d mX0_kindWith 26 (.iload_n 2) 1 := gx_dk (by decide +kernel)
theorem dX0_kindWith_27 : gx_d mX0_kindWith 27 (.invokestatic 36) 3 := gx_dk (by decide +kernel)
theorem dX0_kindWith_30 : gx_d mX0_kindWith 30 (.istore_n 2) 1 := gx_dk (by decide +kernel)
theorem dX0_kindWith_31 : gx_d mX0_kindWith 31 (.iinc 3 1) 3 := gx_dk (by decide +kernel)
theorem dX0_kindWith_34 : gx_d mX0_kindWith 34 (.goto (-30)) 3 := gx_dk (by decide +kernel)
theorem dX0_kindWith_37 : gx_d mX0_kindWith 37 (.iload_n 2) 1 := gx_dk (by decide +kernel)
theorem dX0_kindWith_38 : gx_d mX0_kindWith 38 (.ireturn) 1 := gx_dk (by decide +kernel)
theorem dX0_note_0 : gx_d mX0_note 0 (.aload_n 0) 1 := gx_dk (by decide +kernel)
theorem dX0_note_1 : gx_d mX0_note 1 (.getfield 30) 3 := gx_dk (by decide +kernel)
theorem dX0_note_4 : gx_d mX0_note 4 (.bipush 24) 2 := gx_dk (by decide +kernel)
theorem dX0_note_6 : gx_d mX0_note 6 (.if_icmp .ge 13) 3 := gx_dk (by decide +kernel)
theorem dX0_note_9 : gx_d mX0_note 9 (.aload_n 0) 1 := gx_dk (by decide +kernel)
theorem dX0_note_10 : gx_d mX0_note 10 (.getfield 15) 3 := gx_dk (by decide +kernel)
theorem dX0_note_13 : gx_d mX0_note 13 (.aload_n 0) 1 := gx_dk (by decide +kernel)
theorem dX0_note_14 : gx_d mX0_note 14 (.getfield 30) 3 := gx_dk (by decide +kernel)
theorem dX0_note_17 : gx_d mX0_note 17 (.iload_n 1) 1 := gx_dk (by decide +kernel)
theorem dX0_note_18 : gx_d mX0_note 18 (.iastore) 1 := gx_dk (by decide +kernel)
theorem dX0_note_19 : gx_d mX0_note 19 (.aload_n 0) 1 := gx_dk (by decide +kernel)
theorem dX0_note_20 : gx_d mX0_note 20 (.dup) 1 := gx_dk (by decide +kernel)
theorem dX0_note_21 : gx_d mX0_note 21 (.getfield 30) 3 := gx_dk (by decide +kernel)
theorem dX0_note_24 : gx_d mX0_note 24 (.iconst 1) 1 := gx_dk (by decide +kernel)
theorem dX0_note_25 : gx_d mX0_note 25 (.iadd) 1 := gx_dk (by decide +kernel)
theorem dX0_note_26 : gx_d mX0_note 26 (.putfield 30) 3 := gx_dk (by decide +kernel)
theorem dX0_note_29 : gx_d mX0_note 29 (.return_) 1 := gx_dk (by decide +kernel)
theorem dX0_work_0 : gx_d mX0_work 0 (.iload_n 2) 1 := gx_dk (by decide +kernel)
theorem dX0_work_1 : gx_d mX0_work 1 (.iload_n 3) 1 := gx_dk (by decide +kernel)
theorem dX0_work_2 : gx_d mX0_work 2 (.invokestatic 47) 3 := gx_dk (by decide +kernel)
theorem dX0_work_5 : gx_d mX0_work 5 (.istore 6) 2 := gx_dk (by decide +kernel)
theorem dX0_work_7 : gx_d mX0_work 7 (.iload 6) 2 := gx_dk (by decide +kernel)
theorem dX0_work_9 : gx_d mX0_work 9 (.ifCond .lt 10) 3 := gx_dk (by decide +kernel)
theorem dX0_work_12 : gx_d mX0_work 12 (.iload 5) 2 := gx_dk (by decide +kernel)
theorem dX0_work_14 : gx_d mX0_work 14 (.bipush 40) 2 := gx_dk (by decide +kernel)
theorem dX0_work_16 : gx_d mX0_work 16 (.if_icmp .le 5) 3 := gx_dk (by decide +kernel)
theorem dX0_work_19 : gx_d mX0_work 19 (.iconst 0) 1 := gx_dk (by decide +kernel)
theorem dX0_work_20 : gx_d mX0_work 20 (.ireturn) 1 := gx_dk (by decide +kernel)
theorem dX0_work_21 : gx_d mX0_work 21 (.getstatic 44) 3 := gx_dk (by decide +kernel)
theorem dX0_work_24 : gx_d mX0_work 24 (.iload 6) 2 := gx_dk (by decide +kernel)
theorem dX0_work_26 : gx_d mX0_work 26 (.iconst 4) 1 := gx_dk (by decide +kernel)
theorem dX0_work_27 : gx_d mX0_work 27 (.imul) 1 := gx_dk (by decide +kernel)
theorem dX0_work_28 : gx_d mX0_work 28 (.iload_n 2) 1 := gx_dk (by decide +kernel)
theorem dX0_work_29 : gx_d mX0_work 29 (.iadd) 1 := gx_dk (by decide +kernel)
theorem dX0_work_30 : gx_d mX0_work 30 (.iaload) 1 := gx_dk (by decide +kernel)
theorem dX0_work_31 : gx_d mX0_work 31 (.istore 7) 2 := gx_dk (by decide +kernel)
theorem dX0_work_33 : gx_d mX0_work 33 (.aload_n 0) 1 := gx_dk (by decide +kernel)
theorem dX0_work_34 : gx_d mX0_work 34 (.iload 7) 2 := gx_dk (by decide +kernel)
theorem dX0_work_36 : gx_d mX0_work 36 (.invokevirtual 51) 3 := gx_dk (by decide +kernel)
theorem dX0_work_39 : gx_d mX0_work 39 (.aload_n 0) 1 := gx_dk (by decide +kernel)
theorem dX0_work_40 : gx_d mX0_work 40 (.iload_n 1) 1 := gx_dk (by decide +kernel)
theorem dX0_work_41 : gx_d mX0_work 41 (.invokevirtual 55) 3 := gx_dk (by decide +kernel)
theorem dX0_work_44 : gx_d mX0_work 44 (.istore 8) 2 := gx_dk (by decide +kernel)
theorem dX0_work_46 : gx_d mX0_work 46 (.iload 6) 2 := gx_dk (by decide +kernel)
theorem dX0_work_48 : gx_d mX0_work 48 (.invokestatic 36) 3 := gx_dk (by decide +kernel)
theorem dX0_work_51 : gx_d mX0_work 51 (.istore 9) 2 := gx_dk (by decide +kernel)
theorem dX0_work_53 : gx_d mX0_work 53 (.iload 5) 2 := gx_dk (by decide +kernel)
theorem dX0_work_55 : gx_d mX0_work 55 (.iconst 1) 1 := gx_dk (by decide +kernel)
theorem dX0_work_56 : gx_d mX0_work 56 (.iadd) 1 := gx_dk (by decide +kernel)
theorem dX0_work_57 : gx_d mX0_work 57 (.istore 10) 2 := gx_dk (by decide +kernel)
theorem dX0_work_59 : gx_d mX0_work 59 (.iload 7) 2 := gx_dk (by decide +kernel)
theorem dX0_work_61 : gx_d mX0_work 61 (.lookupswitch 342 #[(1, 123), (2, 128), (10, 153), (11, 168), (20, 173), (30, 188), (40, 202), (41, 217), (50, 232), (60, 247), (61, 272), (70, 287), (80, 302), (81, 327)]) 123 := gx_dk (by decide +kernel)
theorem dX0_work_184 : gx_d mX0_work 184 (.iload 4) 2 := gx_dk (by decide +kernel)
theorem dX0_work_186 : gx_d mX0_work 186 (.iload_n 1) 1 := gx_dk (by decide +kernel)
theorem dX0_work_187 : gx_d mX0_work 187 (.iadd) 1 := gx_dk (by decide +kernel)
theorem dX0_work_188 : gx_d mX0_work 188 (.ireturn) 1 := gx_dk (by decide +kernel)
theorem dX0_work_189 : gx_d mX0_work 189 (.aload_n 0) 1 := gx_dk (by decide +kernel)
theorem dX0_work_190 : gx_d mX0_work 190 (.iload_n 1) 1 := gx_dk (by decide +kernel)
theorem dX0_work_191 : gx_d mX0_work 191 (.iconst 1) 1 := gx_dk (by decide +kernel)
theorem dX0_work_192 : gx_d mX0_work 192 (.iload 8) 2 := gx_dk (by decide +kernel)
theorem dX0_work_194 : gx_d mX0_work 194 (.iload 4) 2 := gx_dk (by decide +kernel)
theorem dX0_work_196 : gx_d mX0_work 196 (.iload 10) 2 := gx_dk (by decide +kernel)
theorem dX0_work_198 : gx_d mX0_work 198 (.invokevirtual 40) 3 := gx_dk (by decide +kernel)
theorem dX0_work_201 : gx_d mX0_work 201 (.aload_n 0) 1 := gx_dk (by decide +kernel)
theorem dX0_work_202 : gx_d mX0_work 202 (.iload_n 1) 1 := gx_dk (by decide +kernel)
theorem dX0_work_203 : gx_d mX0_work 203 (.iconst 2) 1 := gx_dk (by decide +kernel)
theorem dX0_work_204 : gx_d mX0_work 204 (.iload 8) 2 := gx_dk (by decide +kernel)
theorem dX0_work_206 : gx_d mX0_work 206 (.iconst 1) 1 := gx_dk (by decide +kernel)
theorem dX0_work_207 : gx_d mX0_work 207 (.iload 10) 2 := gx_dk (by decide +kernel)
theorem dX0_work_209 : gx_d mX0_work 209 (.invokevirtual 40) 3 := gx_dk (by decide +kernel)
theorem dX0_work_212 : gx_d mX0_work 212 (.isub) 1 := gx_dk (by decide +kernel)
theorem dX0_work_213 : gx_d mX0_work 213 (.ireturn) 1 := gx_dk (by decide +kernel)
theorem dX0_work_214 : gx_d mX0_work 214 (.aload_n 0) 1 := gx_dk (by decide +kernel)
theorem dX0_work_215 : gx_d mX0_work 215 (.iload_n 1) 1 := gx_dk (by decide +kernel)
theorem dX0_work_216 : gx_d mX0_work 216 (.iconst 0) 1 := gx_dk (by decide +kernel)
theorem dX0_work_217 : gx_d mX0_work 217 (.iload 8) 2 := gx_dk (by decide +kernel)
theorem dX0_work_219 : gx_d mX0_work 219 (.iload 4) 2 := gx_dk (by decide +kernel)
theorem dX0_work_221 : gx_d mX0_work 221 (.iload 10) 2 := gx_dk (by decide +kernel)
theorem dX0_work_223 : gx_d mX0_work 223 (.invokevirtual 40) 3 := gx_dk (by decide +kernel)
theorem dX0_work_226 : gx_d mX0_work 226 (.iconst 2) 1 := gx_dk (by decide +kernel)
theorem dX0_work_227 : gx_d mX0_work 227 (.imul) 1 := gx_dk (by decide +kernel)
theorem dX0_work_228 : gx_d mX0_work 228 (.ireturn) 1 := gx_dk (by decide +kernel)
theorem dX0_work_229 : gx_d mX0_work 229 (.iload 4) 2 := gx_dk (by decide +kernel)
theorem dX0_work_231 : gx_d mX0_work 231 (.iload_n 1) 1 := gx_dk (by decide +kernel)
theorem dX0_work_232 : gx_d mX0_work 232 (.ixor) 1 := gx_dk (by decide +kernel)
theorem dX0_work_233 : gx_d mX0_work 233 (.ireturn) 1 := gx_dk (by decide +kernel)
theorem dX0_work_234 : gx_d mX0_work 234 (.aload_n 0) 1 := gx_dk (by decide +kernel)
theorem dX0_work_235 : gx_d mX0_work 235 (.iload_n 1) 1 := gx_dk (by decide +kernel)
theorem dX0_work_236 : gx_d mX0_work 236 (.iload_n 2) 1 := gx_dk (by decide +kernel)
theorem dX0_work_237 : gx_d mX0_work 237 (.iload 9) 2 := gx_dk (by decide +kernel)
theorem dX0_work_239 : gx_d mX0_work 239 (.iload 4) 2 := gx_dk (by decide +kernel)
theorem dX0_work_241 : gx_d mX0_work 241 (.iload 10) 2 := gx_dk (by decide +kernel)
theorem dX0_work_243 : gx_d mX0_work 243 (.invokevirtual 40) 3 := gx_dk (by decide +kernel)
theorem dX0_work_246 : gx_d mX0_work 246 (.iconst 3) 1 := gx_dk (by decide +kernel)
theorem dX0_work_247 : gx_d mX0_work 247 (.iadd) 1 := gx_dk (by decide +kernel)
theorem dX0_work_248 : gx_d mX0_work 248 (.ireturn) 1 := gx_dk (by decide +kernel)
theorem dX0_work_249 : gx_d mX0_work 249 (.aload_n 0) 1 := gx_dk (by decide +kernel)
theorem dX0_work_250 : gx_d mX0_work 250 (.iload_n 1) 1 := gx_dk (by decide +kernel)
theorem dX0_work_251 : gx_d mX0_work 251 (.iload_n 2) 1 := gx_dk (by decide +kernel)
theorem dX0_work_252 : gx_d mX0_work 252 (.iload 9) 2 := gx_dk (by decide +kernel)
theorem dX0_work_254 : gx_d mX0_work 254 (.iload 4) 2 := gx_dk (by decide +kernel)
theorem dX0_work_256 : gx_d mX0_work 256 (.iload 10) 2 := gx_dk (by decide +kernel)
theorem dX0_work_258 : gx_d mX0_work 258 (.invokevirtual 40) 3 := gx_dk (by decide +kernel)
theorem dX0_work_261 : gx_d mX0_work 261 (.ineg) 1 := gx_dk (by decide +kernel)
theorem dX0_work_262 : gx_d mX0_work 262 (.ireturn) 1 := gx_dk (by decide +kernel)
theorem dX0_work_263 : gx_d mX0_work 263 (.aload_n 0) 1 := gx_dk (by decide +kernel)
theorem dX0_work_264 : gx_d mX0_work 264 (.iload_n 1) 1 := gx_dk (by decide +kernel)
theorem dX0_work_265 : gx_d mX0_work 265 (.iload_n 2) 1 := gx_dk (by decide +kernel)
theorem dX0_work_266 : gx_d mX0_work 266 (.iload 9) 2 := gx_dk (by decide +kernel)
theorem dX0_work_268 : gx_d mX0_work 268 (.iload 4) 2 := gx_dk (by decide +kernel)
theorem dX0_work_270 : gx_d mX0_work 270 (.iload 10) 2 := gx_dk (by decide +kernel)
theorem dX0_work_272 : gx_d mX0_work 272 (.invokevirtual 40) 3 := gx_dk (by decide +kernel)
theorem dX0_work_275 : gx_d mX0_work 275 (.iconst 3) 1 := gx_dk (by decide +kernel)
theorem dX0_work_276 : gx_d mX0_work 276 (.imul) 1 := gx_dk (by decide +kernel)
theorem dX0_work_277 : gx_d mX0_work 277 (.ireturn) 1 := gx_dk (by decide +kernel)
theorem dX0_work_278 : gx_d mX0_work 278 (.aload_n 0) 1 := gx_dk (by decide +kernel)
theorem dX0_work_279 : gx_d mX0_work 279 (.iload_n 1) 1 := gx_dk (by decide +kernel)
theorem dX0_work_280 : gx_d mX0_work 280 (.iload_n 2) 1 := gx_dk (by decide +kernel)
theorem dX0_work_281 : gx_d mX0_work 281 (.iload 9) 2 := gx_dk (by decide +kernel)
theorem dX0_work_283 : gx_d mX0_work 283 (.iload 4) 2 := gx_dk (by decide +kernel)
theorem dX0_work_285 : gx_d mX0_work 285 (.iconst 1) 1 := gx_dk (by decide +kernel)
theorem dX0_work_286 : gx_d mX0_work 286 (.iadd) 1 := gx_dk (by decide +kernel)
theorem dX0_work_287 : gx_d mX0_work 287 (.iload 10) 2 := gx_dk (by decide +kernel)
theorem dX0_work_289 : gx_d mX0_work 289 (.invokevirtual 40) 3 := gx_dk (by decide +kernel)
theorem dX0_work_292 : gx_d mX0_work 292 (.ireturn) 1 := gx_dk (by decide +kernel)
theorem dX0_work_293 : gx_d mX0_work 293 (.aload_n 0) 1 := gx_dk (by decide +kernel)
theorem dX0_work_294 : gx_d mX0_work 294 (.iload_n 1) 1 := gx_dk (by decide +kernel)
theorem dX0_work_295 : gx_d mX0_work 295 (.iload_n 2) 1 := gx_dk (by decide +kernel)
theorem dX0_work_296 : gx_d mX0_work 296 (.iload 9) 2 := gx_dk (by decide +kernel)
theorem dX0_work_298 : gx_d mX0_work 298 (.iload 4) 2 := gx_dk (by decide +kernel)
theorem dX0_work_300 : gx_d mX0_work 300 (.iload 10) 2 := gx_dk (by decide +kernel)
theorem dX0_work_302 : gx_d mX0_work 302 (.invokevirtual 40) 3 := gx_dk (by decide +kernel)
theorem dX0_work_305 : gx_d mX0_work 305 (.iconst 5) 1 := gx_dk (by decide +kernel)
theorem dX0_work_306 : gx_d mX0_work 306 (.ixor) 1 := gx_dk (by decide +kernel)
theorem dX0_work_307 : gx_d mX0_work 307 (.ireturn) 1 := gx_dk (by decide +kernel)
theorem dX0_work_308 : gx_d mX0_work 308 (.aload_n 0) 1 := gx_dk (by decide +kernel)
theorem dX0_work_309 : gx_d mX0_work 309 (.iload_n 1) 1 := gx_dk (by decide +kernel)
theorem dX0_work_310 : gx_d mX0_work 310 (.iload_n 2) 1 := gx_dk (by decide +kernel)
theorem dX0_work_311 : gx_d mX0_work 311 (.iload 9) 2 := gx_dk (by decide +kernel)
theorem dX0_work_313 : gx_d mX0_work 313 (.iload 4) 2 := gx_dk (by decide +kernel)
theorem dX0_work_315 : gx_d mX0_work 315 (.iload 10) 2 := gx_dk (by decide +kernel)
theorem dX0_work_317 : gx_d mX0_work 317 (.invokevirtual 40) 3 := gx_dk (by decide +kernel)
theorem dX0_work_320 : gx_d mX0_work 320 (.aload_n 0) 1 := gx_dk (by decide +kernel)
theorem dX0_work_321 : gx_d mX0_work 321 (.iload_n 1) 1 := gx_dk (by decide +kernel)
theorem dX0_work_322 : gx_d mX0_work 322 (.iconst 0) 1 := gx_dk (by decide +kernel)
theorem dX0_work_323 : gx_d mX0_work 323 (.iload 8) 2 := gx_dk (by decide +kernel)
theorem dX0_work_325 : gx_d mX0_work 325 (.iconst 2) 1 := gx_dk (by decide +kernel)
theorem dX0_work_326 : gx_d mX0_work 326 (.iload 10) 2 := gx_dk (by decide +kernel)
theorem dX0_work_328 : gx_d mX0_work 328 (.invokevirtual 40) 3 := gx_dk (by decide +kernel)
theorem dX0_work_331 : gx_d mX0_work 331 (.isub) 1 := gx_dk (by decide +kernel)
theorem dX0_work_332 : gx_d mX0_work 332 (.ireturn) 1 := gx_dk (by decide +kernel)
theorem dX0_work_333 : gx_d mX0_work 333 (.aload_n 0) 1 := gx_dk (by decide +kernel)
theorem dX0_work_334 : gx_d mX0_work 334 (.iload_n 1) 1 := gx_dk (by decide +kernel)
theorem dX0_work_335 : gx_d mX0_work 335 (.iload_n 2) 1 := gx_dk (by decide +kernel)
theorem dX0_work_336 : gx_d mX0_work 336 (.iload 9) 2 := gx_dk (by decide +kernel)
theorem dX0_work_338 : gx_d mX0_work 338 (.iload 4) 2 := gx_dk (by decide +kernel)
theorem dX0_work_340 : gx_d mX0_work 340 (.iload 10) 2 := gx_dk (by decide +kernel)
theorem dX0_work_342 : gx_d mX0_work 342 (.invokevirtual 40) 3 := gx_dk (by decide +kernel)
theorem dX0_work_345 : gx_d mX0_work 345 (.iconst 1) 1 := gx_dk (by decide +kernel)
theorem dX0_work_346 : gx_d mX0_work 346 (.iadd) 1 := gx_dk (by decide +kernel)
theorem dX0_work_347 : gx_d mX0_work 347 (.ireturn) 1 := gx_dk (by decide +kernel)
theorem dX0_work_348 : gx_d mX0_work 348 (.aload_n 0) 1 := gx_dk (by decide +kernel)
theorem dX0_work_349 : gx_d mX0_work 349 (.iload_n 1) 1 := gx_dk (by decide +kernel)
theorem dX0_work_350 : gx_d mX0_work 350 (.iload_n 2) 1 := gx_dk (by decide +kernel)
theorem dX0_work_351 : gx_d mX0_work 351 (.iload 9) 2 := gx_dk (by decide +kernel)
theorem dX0_work_353 : gx_d mX0_work 353 (.iload 4) 2 := gx_dk (by decide +kernel)
theorem dX0_work_355 : gx_d mX0_work 355 (.iload 10) 2 := gx_dk (by decide +kernel)
theorem dX0_work_357 : gx_d mX0_work 357 (.invokevirtual 40) 3 := gx_dk (by decide +kernel)
theorem dX0_work_360 : gx_d mX0_work 360 (.iconst 2) 1 := gx_dk (by decide +kernel)
theorem dX0_work_361 : gx_d mX0_work 361 (.imul) 1 := gx_dk (by decide +kernel)
theorem dX0_work_362 : gx_d mX0_work 362 (.ireturn) 1 := gx_dk (by decide +kernel)
theorem dX0_work_363 : gx_d mX0_work 363 (.aload_n 0) 1 := gx_dk (by decide +kernel)
theorem dX0_work_364 : gx_d mX0_work 364 (.iload_n 1) 1 := gx_dk (by decide +kernel)
theorem dX0_work_365 : gx_d mX0_work 365 (.iload_n 2) 1 := gx_dk (by decide +kernel)
theorem dX0_work_366 : gx_d mX0_work 366 (.iload 9) 2 := gx_dk (by decide +kernel)
theorem dX0_work_368 : gx_d mX0_work 368 (.iload 4) 2 := gx_dk (by decide +kernel)
theorem dX0_work_370 : gx_d mX0_work 370 (.iload 10) 2 := gx_dk (by decide +kernel)
theorem dX0_work_372 : gx_d mX0_work 372 (.invokevirtual 40) 3 := gx_dk (by decide +kernel)
theorem dX0_work_375 : gx_d mX0_work 375 (.aload_n 0) 1 := gx_dk (by decide +kernel)
theorem dX0_work_376 : gx_d mX0_work 376 (.iload_n 1) 1 := gx_dk (by decide +kernel)
theorem dX0_work_377 : gx_d mX0_work 377 (.iconst 2) 1 := gx_dk (by decide +kernel)
theorem dX0_work_378 : gx_d mX0_work 378 (.iload 8) 2 := gx_dk (by decide +kernel)
theorem dX0_work_380 : gx_d mX0_work 380 (.iconst 2) 1 := gx_dk (by decide +kernel)
theorem dX0_work_381 : gx_d mX0_work 381 (.iload 10) 2 := gx_dk (by decide +kernel)
theorem dX0_work_383 : gx_d mX0_work 383 (.invokevirtual 40) 3 := gx_dk (by decide +kernel)
theorem dX0_work_386 : gx_d mX0_work 386 (.iadd) 1 := gx_dk (by decide +kernel)
theorem dX0_work_387 : gx_d mX0_work 387 (.ireturn) 1 := gx_dk (by decide +kernel)
theorem dX0_work_388 : gx_d mX0_work 388 (.aload_n 0) 1 := gx_dk (by decide +kernel)
theorem dX0_work_389 : gx_d mX0_work 389 (.iload_n 1) 1 := gx_dk (by decide +kernel)
theorem dX0_work_390 : gx_d mX0_work 390 (.iload_n 2) 1 := gx_dk (by decide +kernel)
theorem dX0_work_391 : gx_d mX0_work 391 (.iload 9) 2 := gx_dk (by decide +kernel)
theorem dX0_work_393 : gx_d mX0_work 393 (.iload 4) 2 := gx_dk (by decide +kernel)
theorem dX0_work_395 : gx_d mX0_work 395 (.iload 10) 2 := gx_dk (by decide +kernel)
theorem dX0_work_397 : gx_d mX0_work 397 (.invokevirtual 40) 3 := gx_dk (by decide +kernel)
theorem dX0_work_400 : gx_d mX0_work 400 (.iconst 1) 1 := gx_dk (by decide +kernel)
theorem dX0_work_401 : gx_d mX0_work 401 (.isub) 1 := gx_dk (by decide +kernel)
theorem dX0_work_402 : gx_d mX0_work 402 (.ireturn) 1 := gx_dk (by decide +kernel)
theorem dX0_work_403 : gx_d mX0_work 403 (.iconst 0) 1 := gx_dk (by decide +kernel)
theorem dX0_work_404 : gx_d mX0_work 404 (.ireturn) 1 := gx_dk (by decide +kernel)
def boO (w : gx_W) : Prop := w.1[17]? = some (0, 0) ∧ (w_r w 17 0 = some 18 ∧ w.1[18]? = some (20, 50)) ∧ (w_r w 17 1 = some 19 ∧ w.1[19]? = some (20, 24))
theorem boO.same {R : List Nat} {F : List (Nat × Nat)} {w w' : gx_W} (h : boO w) (hs : same R F w w') : boO w' := by
  unfold boO at h ⊢
  rw [hs.1, hs.2.2.1]
  exact h
/-- n bodies -/
def boK (w : gx_W) (n : Nat) : Prop := boO w ∧ w_i w 17 2 = nI n ∧ n ≤ 50
theorem boK.same {R : List Nat} {F : List (Nat × Nat)} {w w' : gx_W} {n : Nat} (h : boK w n) (hs : same R F w w') (hF : (17, 2) ∉ F) : boK w' n := ⟨h.1.same hs, (hs.2.1 17 2 hF).trans h.2.1, h.2.2⟩
/-- kinds: 8 stands for none -/
def bo_i (k : Nat) : Int32 := if k < 8 then nI k else -1
def bo_up (k : Nat) : Nat := [8, 0, 0, 2, 1, 3, 0, 6, 8].getD k 8
def bo_own (k c : Nat) : Nat := [1, 10, 11, 2, 20, 0, 0, 0, 0, 30, 0, 0, 0, 41, 40, 0, 0, 0, 0, 50, 0, 0, 60, 61, 70, 0, 0, 0, 81, 80, 0, 0].getD (k * 4 + c) 0
theorem bo_up_le : ∀ k, k ≤ 8 → bo_up k ≤ 8 := by decide
theorem bo_up_tab : ∀ k, k < 8 → (gx_tab 4).getD k 0 = bo_i (bo_up k) := by decide
theorem bo_own_tab : ∀ k, k < 8 → ∀ c, c < 4 → (gx_tab 5).getD (k * 4 + c) 0 = nI (bo_own k c) := by decide
theorem bo_own_lt : ∀ k, k < 8 → ∀ c, c < 4 → bo_own k c < 100 := by decide
theorem bo_i_neg : ∀ k, k ≤ 8 → (bo_i k < 0 ↔ k = 8) := by decide
theorem bo_i_lt {k : Nat} (h : k < 8) : bo_i k = nI k := if_pos h
def bo_un (t : Int32) : Nat → Nat → Bool
  | 0, _ => false
  | z + 1, k => decide (k ≠ 8) && (decide (bo_i k = t) || bo_un t z (bo_up k))
def bo_kw (c : Nat) : Nat → Nat → Nat
  | 0, k => k
  | z + 1, k => if k = 8 then k else if bo_own k c = 0 then bo_kw c z (bo_up k) else k
theorem pI_m4 (q m : Nat) : nI q * 4 + nI m = nI (q * 4 + m) := by
  have e : (4 : Int32) = nI 4 := by decide
  rw [e, pk_mul, nI_add]
theorem c_X0_isFull {d : Nat} {w : gx_W} {n : Nat} {k : Int32 → gx_W → Prop} (hd : 0 ≤ d) (h : boK w n) (kt : n = 50 → k 1 w) (kf : n < 50 → k 0 w) : gx_C 0 0 d mX0_isFull [.ref 17] w (Qi k) := by
  refine gx_C_of' (L := [.ref 17]) (by decide +kernel) rfl (Nat.le_of_ble_eq_true rfl) ?_
  refine g_aload_n dX0_isFull_0 rfl ?_
  refine g_geti dX0_isFull_1 fl_X0_18 h.1.1 ?_
  refine g_bipush (v := 50) dX0_isFull_4 rfl ?_
  refine g_icmp_lt (tgt := 13) dX0_isFull_6 (by decide) (fun zc6 => ?_) (fun zc6 => ?_)
  · refine g_iconst (v := 0) dX0_isFull_13 rfl ?_
    refine g_zret dX0_isFull_14 rfl (Or.inl rfl) ⟨_, rfl, ?_⟩
    have hb := h.2.2
    have c := zc6
    rw [h.2.1, pI_lt, nI_toInt (by omega)] at c
    have e : (50 : Int32).toInt = 50 := by decide
    exact kf (by omega)
  · refine g_iconst (v := 1) dX0_isFull_9 rfl ?_
    refine g_goto (tgt := 14) dX0_isFull_10 (by decide) ?_
    refine g_zret dX0_isFull_14 rfl (Or.inr rfl) ⟨_, rfl, ?_⟩
    have hb := h.2.2
    have c := zc6
    rw [h.2.1] at c
    refine kt ?_
    rcases Nat.lt_or_ge n 50 with q | q
    · exact absurd (nI_lt q (b := 50) (by decide)) c
    · omega
theorem c_X0_isBody {d : Nat} {w : gx_W} {n : Nat} {x : Int32} {k : Int32 → gx_W → Prop} (hd : 0 ≤ d) (h : boK w n) (kt : ∀ m, x = nI m → m < n → k 1 w) (kf : (∀ m, m < n → x ≠ nI m) → k 0 w) : gx_C 0 0 d mX0_isBody [.ref 17, .int x] w (Qi k) := by
  refine gx_C_of' (L := [.ref 17, .int x]) (by decide +kernel) rfl (Nat.le_of_ble_eq_true rfl) ?_
  refine g_iload_n dX0_isBody_0 rfl ?_
  refine g_if_lt (tgt := 16) dX0_isBody_1 (by decide) (fun zc1 => ?_) (fun zc1 => ?_)
  · refine g_iconst (v := 0) dX0_isBody_16 rfl ?_
    refine g_zret dX0_isBody_17 rfl (Or.inl rfl) ⟨_, rfl, ?_⟩
    refine kf (fun m hm e => ?_)
    have hb := h.2.2
    first
      | (rw [e] at zc1; exact absurd zc1 (nI_pos (by omega)))
      | (have c := zc9
         rw [h.2.1, e] at c
         exact absurd c (nI_ge hm (by omega)))
  · refine g_iload_n dX0_isBody_4 rfl ?_
    refine g_aload_n dX0_isBody_5 rfl ?_
    refine g_geti dX0_isBody_6 fl_X0_18 h.1.1 ?_
    refine g_icmp_ge (tgt := 16) dX0_isBody_9 (by decide) (fun zc9 => ?_) (fun zc9 => ?_)
    · refine g_iconst (v := 0) dX0_isBody_16 rfl ?_
      refine g_zret dX0_isBody_17 rfl (Or.inl rfl) ⟨_, rfl, ?_⟩
      refine kf (fun m hm e => ?_)
      have hb := h.2.2
      first
        | (rw [e] at zc1; exact absurd zc1 (nI_pos (by omega)))
        | (have c := zc9
           rw [h.2.1, e] at c
           exact absurd c (nI_ge hm (by omega)))
    · refine g_iconst (v := 1) dX0_isBody_12 rfl ?_
      refine g_goto (tgt := 17) dX0_isBody_13 (by decide) ?_
      refine g_zret dX0_isBody_17 rfl (Or.inr rfl) ⟨_, rfl, ?_⟩
      have zc9' : x < nI n := by
        have c := zc9
        rw [h.2.1] at c
        exact Int32.not_le.mp c
      obtain ⟨m, h1, h2⟩ := pI_cases (by have := h.2.2; omega) (by simpa using zc1) zc9'
      exact kt m h2 h1
theorem c_X0_kindOf {d : Nat} {w : gx_W} {n : Nat} {x : Int32} {k : Int32 → gx_W → Prop} (hd : 1 ≤ d) (h : boK w n) (kt : ∀ m, x = nI m → m < n → k (w_a w 18 m) w) (kf : (∀ m, m < n → x ≠ nI m) → k (-1) w) : gx_C 0 0 d mX0_kindOf [.ref 17, .int x] w (Qi k) := by
  refine gx_C_of' (L := [.ref 17, .int x]) (by decide +kernel) rfl (Nat.le_of_ble_eq_true rfl) ?_
  refine g_aload_n dX0_kindOf_0 rfl ?_
  refine g_iload_n dX0_kindOf_1 rfl ?_
  refine g_cV1i dX0_kindOf_2 ml_X0_22 mi_X0_isBody mv_X0_isBody h.1.1 ⟨_, rfl, rfl⟩ (Nat.le_of_ble_eq_true rfl) rfl (by omega) ?_
  refine c_X0_isBody (by omega) h (fun m e hm => ?_) (fun hn => ?_)
  · refine g_if_eq (tgt := 17) dX0_kindOf_5 (by decide) (fun q => absurd q (by decide)) (fun _ => ?_)
    have hb := h.2.2
    subst e
    refine g_aload_n dX0_kindOf_8 rfl ?_
    refine g_getr dX0_kindOf_9 fl_X0_11 h.1.1 h.1.2.1.1 ?_
    refine g_iload_n dX0_kindOf_12 rfl ?_
    refine g_iald dX0_kindOf_13 h.1.2.1.2 (vp_in_nI (by omega) (by decide)) ?_
    refine g_goto (tgt := 18) dX0_kindOf_14 (by decide) ?_
    refine g_iret dX0_kindOf_18 rfl ⟨_, rfl, ?_⟩
    rw [nI_n (by omega)]
    exact kt m rfl hm
  · refine g_if_eq (tgt := 17) dX0_kindOf_5 (by decide) (fun _ => ?_) (fun q => absurd q (by decide))
    refine g_iconst (v := -1) dX0_kindOf_17 rfl ?_
    refine g_iret dX0_kindOf_18 rfl ⟨_, rfl, ?_⟩
    exact kf hn
theorem c_X0_add {d : Nat} {w : gx_W} {n : Nat} {x : Int32} {k : Int32 → gx_W → Prop} (hd : 1 ≤ d) (h : boK w n) (h1 : n < 50 → k (nI n) (s_i (s_a w 18 (va_up (w_a w 18) n x)) 17 2 (nI (n + 1)))) (h2 : n = 50 → k (-3) w) : gx_C 0 0 d mX0_add [.ref 17, .int x] w (Qi k) := by
  refine gx_C_of' (L := [.ref 17, .int x]) (by decide +kernel) rfl (Nat.le_of_ble_eq_true rfl) ?_
  refine g_aload_n dX0_add_0 rfl ?_
  refine g_cV0i dX0_add_1 ml_X0_26 mi_X0_isFull mv_X0_isFull h.1.1 ⟨_, rfl, rfl⟩ (Nat.le_of_ble_eq_true rfl) rfl (by omega) ?_
  refine c_X0_isFull (by omega) h (fun e => ?_) (fun e => ?_)
  · refine g_if_eq (tgt := 10) dX0_add_4 (by decide) (fun q => absurd q (by decide)) (fun _ => ?_)
    refine g_bipush (v := -3) dX0_add_7 rfl ?_
    refine g_iret dX0_add_9 rfl ⟨_, rfl, ?_⟩
    exact h2 e
  · refine g_if_eq (tgt := 10) dX0_add_4 (by decide) (fun _ => ?_) (fun q => absurd q (by decide))
    refine g_aload_n dX0_add_10 rfl ?_
    refine g_getr dX0_add_11 fl_X0_11 h.1.1 h.1.2.1.1 ?_
    refine g_aload_n dX0_add_14 rfl ?_
    refine g_geti dX0_add_15 fl_X0_18 h.1.1 ?_
    rw [h.2.1]
    refine g_iload_n dX0_add_18 rfl ?_
    refine g_iast dX0_add_19 h.1.2.1.2 (vp_in_nI e (by decide)) ?_
    refine g_aload_n dX0_add_20 rfl ?_
    refine g_dup dX0_add_21 rfl ?_
    refine g_geti dX0_add_22 fl_X0_18 h.1.1 ?_
    refine g_iconst (v := 1) dX0_add_25 rfl ?_
    refine g_iadd dX0_add_26 ?_
    refine g_puti dX0_add_27 fl_X0_18 ft_0_2 h.1.1 ?_
    refine g_aload_n dX0_add_30 rfl ?_
    refine g_geti dX0_add_31 fl_X0_18 h.1.1 ?_
    refine g_iconst (v := 1) dX0_add_34 rfl ?_
    refine g_isub dX0_add_35 ?_
    refine g_iret dX0_add_36 rfl ⟨_, rfl, ?_⟩
    have e1 : w_i (s_a w 18 (va_up (w_a w 18) (nI n).toNatClampNeg x)) 17 2 = nI n := h.2.1
    rw [e1, nI_n (by omega)]
    have e2 : (nI n : Int32) + 1 = nI (n + 1) := (nI_succ n).symm
    rw [e2, wi_si, if_pos ⟨rfl, rfl⟩]
    have e3 : (nI (n + 1) : Int32) - 1 = nI n := by rw [Int32.sub_eq_add_neg]; exact pk_m1 n
    rw [e3]
    exact h1 e
theorem c_X0_traced {d : Nat} {w : gx_W} {n R : Nat} {x : Int32} {k : Int32 → gx_W → Prop} (hd : 0 ≤ d) (h : boK w n) (hr : w_i w 17 3 = nI R) (hR : R < 2 ^ 30) (kt : ∀ m, x = nI m → m < R → m < 24 → k (w_a w 19 m) w) (kf : (∀ m, m < R → m < 24 → x ≠ nI m) → k (-1) w) : gx_C 0 0 d mX0_traced [.ref 17, .int x] w (Qi k) := by
  refine gx_C_of' (L := [.ref 17, .int x]) (by decide +kernel) rfl (Nat.le_of_ble_eq_true rfl) ?_
  refine g_iload_n dX0_traced_0 rfl ?_
  refine g_if_lt (tgt := 27) dX0_traced_1 (by decide) (fun zc1 => ?_) (fun zc1 => ?_)
  · refine g_iconst (v := -1) dX0_traced_27 rfl ?_
    refine g_iret dX0_traced_28 rfl ⟨_, rfl, ?_⟩
    refine kf (fun m hm h24 e => ?_)
    first
      | (rw [e] at zc1; exact absurd zc1 (nI_pos (by omega)))
      | (rw [e] at zc15; exact absurd zc15 (nI_ge (b := 24) h24 (by decide)))
      | (have c := zc9
         rw [hr, e] at c
         exact absurd c (nI_ge hm (by omega)))
  · refine g_iload_n dX0_traced_4 rfl ?_
    refine g_aload_n dX0_traced_5 rfl ?_
    refine g_geti dX0_traced_6 fl_X0_30 h.1.1 ?_
    refine g_icmp_ge (tgt := 27) dX0_traced_9 (by decide) (fun zc9 => ?_) (fun zc9 => ?_)
    · refine g_iconst (v := -1) dX0_traced_27 rfl ?_
      refine g_iret dX0_traced_28 rfl ⟨_, rfl, ?_⟩
      refine kf (fun m hm h24 e => ?_)
      first
        | (rw [e] at zc1; exact absurd zc1 (nI_pos (by omega)))
        | (rw [e] at zc15; exact absurd zc15 (nI_ge (b := 24) h24 (by decide)))
        | (have c := zc9
           rw [hr, e] at c
           exact absurd c (nI_ge hm (by omega)))
    · refine g_iload_n dX0_traced_12 rfl ?_
      refine g_bipush (v := 24) dX0_traced_13 rfl ?_
      refine g_icmp_ge (tgt := 27) dX0_traced_15 (by decide) (fun zc15 => ?_) (fun zc15 => ?_)
      · refine g_iconst (v := -1) dX0_traced_27 rfl ?_
        refine g_iret dX0_traced_28 rfl ⟨_, rfl, ?_⟩
        refine kf (fun m hm h24 e => ?_)
        first
          | (rw [e] at zc1; exact absurd zc1 (nI_pos (by omega)))
          | (rw [e] at zc15; exact absurd zc15 (nI_ge (b := 24) h24 (by decide)))
          | (have c := zc9
             rw [hr, e] at c
             exact absurd c (nI_ge hm (by omega)))
      · have c9 : x < nI R := by
          have c := zc9
          rw [hr] at c
          exact Int32.not_le.mp c
        obtain ⟨m, h1, h2⟩ := pI_cases (by omega) (by simpa using zc1) c9
        subst h2
        have h24 : m < 24 := by
          rcases Nat.lt_or_ge m 24 with q | q
          · exact q
          · refine absurd ?_ zc15
            show (24 : Int32) ≤ nI m
            rw [pI_le, nI_toInt (by omega)]
            have e : (24 : Int32).toInt = 24 := by decide
            omega
        refine g_aload_n dX0_traced_18 rfl ?_
        refine g_getr dX0_traced_19 fl_X0_15 h.1.1 h.1.2.2.1 ?_
        refine g_iload_n dX0_traced_22 rfl ?_
        refine g_iald dX0_traced_23 h.1.2.2.2 (vp_in_nI h24 (by decide)) ?_
        refine g_goto (tgt := 28) dX0_traced_24 (by decide) ?_
        refine g_iret dX0_traced_28 rfl ⟨_, rfl, ?_⟩
        rw [nI_n (by omega)]
        exact kt m rfl h1 h24
theorem c_X0_above {d : Nat} {w : gx_W} {j : Nat} {k : Int32 → gx_W → Prop} (hd : 0 ≤ d) (hT : isT w) (hj : j ≤ 8) (kk : k (bo_i (bo_up j)) w) : gx_C 0 0 d mX0_above [.int (bo_i j)] w (Qi k) := by
  refine gx_C_of' (L := [.int (bo_i j)]) (by decide +kernel) rfl (Nat.le_of_ble_eq_true rfl) ?_
  have hT4 : w.1[4]? = some (30, 8) := (hT 4 (by decide) (by decide)).1
  have hv4 : w_a w 4 = fun j => (gx_tab 4).getD j 0 := (hT 4 (by decide) (by decide)).2
  refine g_iload_n dX0_above_0 rfl ?_
  refine g_if_lt (tgt := 18) dX0_above_1 (by decide) (fun zc1 => ?_) (fun zc1 => ?_)
  · refine g_iconst (v := -1) dX0_above_18 rfl ?_
    refine g_iret dX0_above_19 rfl ⟨_, rfl, ?_⟩
    have e := (bo_i_neg j hj).mp zc1
    subst e
    exact kk
  · refine g_iload_n dX0_above_4 rfl ?_
    refine g_bipush (v := 8) dX0_above_5 rfl ?_
    refine g_icmp_ge (tgt := 18) dX0_above_7 (by decide) (fun zc7 => ?_) (fun zc7 => ?_)
    · refine g_iconst (v := -1) dX0_above_18 rfl ?_
      refine g_iret dX0_above_19 rfl ⟨_, rfl, ?_⟩
      exfalso
      have h8 : j < 8 := by
        rcases Nat.lt_or_ge j 8 with q | q
        · exact q
        · exact absurd ((bo_i_neg j hj).mpr (by omega)) zc1
      rw [bo_i_lt h8] at zc7
      exact absurd zc7 (nI_ge (b := 8) h8 (by decide))
    · have hj8 : j < 8 := by
        rcases Nat.lt_or_ge j 8 with q | q
        · exact q
        · exact absurd ((bo_i_neg j hj).mpr (by omega)) zc1
      rw [bo_i_lt hj8]
      refine g_gets (a := 4) dX0_above_10 gs_X0_33 (by decide) (by decide) ?_
      refine g_iload_n dX0_above_13 rfl ?_
      refine g_rald dX0_above_14 (by decide) hT4 (vp_in_nI hj8 (by decide)) ?_
      refine g_goto (tgt := 19) dX0_above_15 (by decide) ?_
      refine g_iret dX0_above_19 rfl ⟨_, rfl, ?_⟩
      rw [hv4, nI_n (by omega)]
      show k ((gx_tab 4).getD j 0) w
      rw [bo_up_tab j hj8]
      exact kk
set_option maxHeartbeats 4000000 in
theorem l_X0_isUnder {d : Nat} {w : gx_W} {x0 : Value} {t : Int32} {k : Int32 → gx_W → Prop} (hd : 1 ≤ d) (hT : isT w) : ∀ z i j : Nat, i + z = 8 → j ≤ 8 → (bo_un t z j = true → k 1 w) → (bo_un t z j = false → k 0 w) → gx_G 0 0 d mX0_isUnder (Qi k) 4 [x0, .int t, .int (bo_i j), .int (nI i)] [] w := by
  intro z
  induction z with
  | zero =>
    intro i j hi hj kt kf
    have e : i = 8 := by omega
    subst e
    refine g_iload_n dX0_isUnder_4 rfl ?_
    refine g_bipush (v := 8) dX0_isUnder_5 rfl ?_
    refine g_icmp_ge (tgt := 32) dX0_isUnder_7 (by decide) (fun zc7 => ?_) (fun zc7 => ?_)
    · refine g_iconst (v := 0) dX0_isUnder_32 rfl ?_
      refine g_zret dX0_isUnder_33 rfl (Or.inl rfl) ⟨_, rfl, ?_⟩
      exact kf rfl
    · exact absurd (Int32.le_refl _) zc7
  | succ z ih =>
    intro i j hi hj kt kf
    refine g_iload_n dX0_isUnder_4 rfl ?_
    refine g_bipush (v := 8) dX0_isUnder_5 rfl ?_
    refine g_icmp_ge (tgt := 32) dX0_isUnder_7 (by decide) (fun zc7 => ?_) (fun zc7 => ?_)
    · refine g_iconst (v := 0) dX0_isUnder_32 rfl ?_
      refine g_zret dX0_isUnder_33 rfl (Or.inl rfl) ⟨_, rfl, ?_⟩
      exact absurd zc7 (nI_ge (b := 8) (by omega) (by decide))
    · refine g_iload_n dX0_isUnder_10 rfl ?_
      refine g_if_lt (tgt := 32) dX0_isUnder_11 (by decide) (fun zc11 => ?_) (fun zc11 => ?_)
      · refine g_iconst (v := 0) dX0_isUnder_32 rfl ?_
        refine g_zret dX0_isUnder_33 rfl (Or.inl rfl) ⟨_, rfl, ?_⟩
        refine kf ?_
        have q := (bo_i_neg j hj).mp zc11
        unfold bo_un
        simp [q]
      · refine g_iload_n dX0_isUnder_14 rfl ?_
        refine g_iload_n dX0_isUnder_15 rfl ?_
        refine g_icmp_ne (tgt := 21) dX0_isUnder_16 (by decide) (fun zc16 => ?_) (fun zc16 => ?_)
        · refine g_iload_n dX0_isUnder_21 rfl ?_
          refine g_cS1i dX0_isUnder_22 ml_X0_36 mi_X0_above ms_X0_above (Nat.le_of_ble_eq_true rfl) rfl (by omega) ?_
          refine c_X0_above (by omega) hT hj ?_
          refine g_istore_n dX0_isUnder_25 (Nat.le_of_ble_eq_true rfl) rfl ?_
          refine g_iinc dX0_isUnder_26 rfl rfl ?_
          refine g_goto (tgt := 4) dX0_isUnder_29 (by decide) ?_
          have hj8 : ¬ j = 8 := fun q => zc11 ((bo_i_neg j hj).mpr q)
          have e : bo_un t (z + 1) j = bo_un t z (bo_up j) := by
            conv => lhs; unfold bo_un
            simp [hj8, zc16]
          rw [e] at kt kf
          rw [nI_1']
          exact ih (i + 1) (bo_up j) (by omega) (bo_up_le j hj) kt kf
        · refine g_iconst (v := 1) dX0_isUnder_19 rfl ?_
          refine g_zret dX0_isUnder_20 rfl (Or.inr rfl) ⟨_, rfl, ?_⟩
          refine kt ?_
          have hj8 : ¬ j = 8 := fun q => zc11 ((bo_i_neg j hj).mpr q)
          have q : bo_i j = t := by first | exact zc16 | exact Classical.not_not.mp zc16
          unfold bo_un
          simp [hj8, q]
theorem c_X0_isUnder {d : Nat} {w : gx_W} {j : Nat} {t : Int32} {k : Int32 → gx_W → Prop} (hd : 1 ≤ d) (hT : isT w) (hj : j ≤ 8) (kt : bo_un t 8 j = true → k 1 w) (kf : bo_un t 8 j = false → k 0 w) : gx_C 0 0 d mX0_isUnder [.int (bo_i j), .int t] w (Qi k) := by
  refine gx_C_of' (L := [.int (bo_i j), .int t, .retAddr 0, .retAddr 0]) (by decide +kernel) rfl (Nat.le_of_ble_eq_true rfl) ?_
  refine g_iload_n dX0_isUnder_0 rfl ?_
  refine g_istore_n dX0_isUnder_1 (Nat.le_of_ble_eq_true rfl) rfl ?_
  refine g_iconst (v := 0) dX0_isUnder_2 rfl ?_
  refine g_istore_n dX0_isUnder_3 (Nat.le_of_ble_eq_true rfl) rfl ?_
  exact l_X0_isUnder hd hT 8 0 j rfl hj kt kf
set_option maxHeartbeats 4000000 in
theorem l_X0_kindWith {d c : Nat} {w : gx_W} {x1 : Int32} {k : Int32 → gx_W → Prop} (hd : 1 ≤ d) (hT : isT w) (hc : c < 4) : ∀ z i j : Nat, i + z = 8 → j ≤ 8 → k (bo_i (bo_kw c z j)) w → gx_G 0 0 d mX0_kindWith (Qi k) 4 [.int (nI c), .int x1, .int (bo_i j), .int (nI i)] [] w := by
  intro z
  induction z with
  | zero =>
    intro i j hi hj kk
    have e : i = 8 := by omega
    subst e
    refine g_iload_n dX0_kindWith_4 rfl ?_
    refine g_bipush (v := 8) dX0_kindWith_5 rfl ?_
    refine g_icmp_ge (tgt := 37) dX0_kindWith_7 (by decide) (fun zc7 => ?_) (fun zc7 => ?_)
    · refine g_iload_n dX0_kindWith_37 rfl ?_
      refine g_iret dX0_kindWith_38 rfl ⟨_, rfl, ?_⟩
      exact kk
    · exact absurd (Int32.le_refl _) zc7
  | succ z ih =>
    intro i j hi hj kk
    unfold bo_kw at kk
    have hT5 : w.1[5]? = some (30, 32) := (hT 5 (by decide) (by decide)).1
    have hv5 : w_a w 5 = fun j => (gx_tab 5).getD j 0 := (hT 5 (by decide) (by decide)).2
    refine g_iload_n dX0_kindWith_4 rfl ?_
    refine g_bipush (v := 8) dX0_kindWith_5 rfl ?_
    refine g_icmp_ge (tgt := 37) dX0_kindWith_7 (by decide) (fun zc7 => ?_) (fun zc7 => ?_)
    · refine g_iload_n dX0_kindWith_37 rfl ?_
      refine g_iret dX0_kindWith_38 rfl ⟨_, rfl, ?_⟩
      exact absurd zc7 (nI_ge (b := 8) (by omega) (by decide))
    · refine g_iload_n dX0_kindWith_10 rfl ?_
      refine g_if_lt (tgt := 37) dX0_kindWith_11 (by decide) (fun zc11 => ?_) (fun zc11 => ?_)
      · refine g_iload_n dX0_kindWith_37 rfl ?_
        refine g_iret dX0_kindWith_38 rfl ⟨_, rfl, ?_⟩
        rw [if_pos ((bo_i_neg j hj).mp zc11)] at kk
        exact kk
      · have hj8 : j < 8 := by
          rcases Nat.lt_or_ge j 8 with q | q
          · exact q
          · exact absurd ((bo_i_neg j hj).mpr (by omega)) zc11
        rw [if_neg (show ¬ j = 8 by omega)] at kk
        refine g_gets (a := 5) dX0_kindWith_14 gs_X0_44 (by decide) (by decide) ?_
        refine g_iload_n dX0_kindWith_17 rfl ?_
        rw [bo_i_lt hj8]
        refine g_iconst (v := 4) dX0_kindWith_18 rfl ?_
        refine g_imul dX0_kindWith_19 ?_
        refine g_iload_n dX0_kindWith_20 rfl ?_
        refine g_iadd dX0_kindWith_21 ?_
        rw [pI_m4]
        refine g_rald dX0_kindWith_22 (by decide) hT5 (vp_in_nI (by omega) (by decide)) ?_
        rw [hv5, nI_n (by omega)]
        show gx_G 0 0 d mX0_kindWith (Qi k) 23 _ [.int ((gx_tab 5).getD (j * 4 + c) 0)] w
        rw [bo_own_tab j hj8 c hc, ← bo_i_lt hj8]
        refine g_if_ne (tgt := 37) dX0_kindWith_23 (by decide) (fun zc23 => ?_) (fun zc23 => ?_)
        · refine g_iload_n dX0_kindWith_37 rfl ?_
          refine g_iret dX0_kindWith_38 rfl ⟨_, rfl, ?_⟩
          have en : ¬ bo_own j c = 0 := fun q => zc23 (by rw [q]; rfl)
          rw [if_neg en] at kk
          exact kk
        · have eo : bo_own j c = 0 := pI_inj (b := 0) (by have := bo_own_lt j hj8 c hc; omega) (by decide) (by first | exact zc23 | exact Classical.not_not.mp zc23)
          rw [if_pos eo] at kk
          refine g_iload_n dX0_kindWith_26 rfl ?_
          refine g_cS1i dX0_kindWith_27 ml_X0_36 mi_X0_above ms_X0_above (Nat.le_of_ble_eq_true rfl) rfl (by omega) ?_
          refine c_X0_above (by omega) hT hj ?_
          refine g_istore_n dX0_kindWith_30 (Nat.le_of_ble_eq_true rfl) rfl ?_
          refine g_iinc dX0_kindWith_31 rfl rfl ?_
          refine g_goto (tgt := 4) dX0_kindWith_34 (by decide) ?_
          rw [nI_1']
          exact ih (i + 1) (bo_up j) (by omega) (bo_up_le j hj) kk
theorem c_X0_kindWith {d : Nat} {w : gx_W} {j c : Nat} {k : Int32 → gx_W → Prop} (hd : 1 ≤ d) (hT : isT w) (hj : j ≤ 8) (hc : c < 4) (kk : k (bo_i (bo_kw c 8 j)) w) : gx_C 0 0 d mX0_kindWith [.int (nI c), .int (bo_i j)] w (Qi k) := by
  refine gx_C_of' (L := [.int (nI c), .int (bo_i j), .retAddr 0, .retAddr 0]) (by decide +kernel) rfl (Nat.le_of_ble_eq_true rfl) ?_
  refine g_iload_n dX0_kindWith_0 rfl ?_
  refine g_istore_n dX0_kindWith_1 (Nat.le_of_ble_eq_true rfl) rfl ?_
  refine g_iconst (v := 0) dX0_kindWith_2 rfl ?_
  refine g_istore_n dX0_kindWith_3 (Nat.le_of_ble_eq_true rfl) rfl ?_
  exact l_X0_kindWith hd hT hc 8 0 j rfl hj kk
/-- a body's number goes into the trace -/
def bo_nt (w : gx_W) (m : Nat) (n : Int32) : gx_W := s_i (if m < 24 then s_a w 19 (va_up (w_a w 19) m n) else w) 17 3 (nI (m + 1))
theorem c_X0_note {d : Nat} {w : gx_W} {n m : Nat} {x : Int32} {k : gx_W → Prop} (hd : 0 ≤ d) (h : boK w n) (hr : w_i w 17 3 = nI m) (hm : m < 2 ^ 30) (kk : k (bo_nt w m x)) : gx_C 0 0 d mX0_note [.ref 17, .int x] w (Qv k) := by
  refine gx_C_of' (L := [.ref 17, .int x]) (by decide +kernel) rfl (Nat.le_of_ble_eq_true rfl) ?_
  refine g_aload_n dX0_note_0 rfl ?_
  refine g_geti dX0_note_1 fl_X0_30 h.1.1 ?_
  refine g_bipush (v := 24) dX0_note_4 rfl ?_
  refine g_icmp_ge (tgt := 19) dX0_note_6 (by decide) (fun zc6 => ?_) (fun zc6 => ?_)
  · refine g_aload_n dX0_note_19 rfl ?_
    refine g_dup dX0_note_20 rfl ?_
    refine g_geti dX0_note_21 fl_X0_30 h.1.1 ?_
    refine g_iconst (v := 1) dX0_note_24 rfl ?_
    refine g_iadd dX0_note_25 ?_
    refine g_puti dX0_note_26 fl_X0_30 ft_0_3 h.1.1 ?_
    refine g_vret dX0_note_29 rfl ⟨rfl, ?_⟩
    have e2 : (nI m : Int32) + 1 = nI (m + 1) := (nI_succ m).symm
    unfold bo_nt at kk
    have h24 : ¬ m < 24 := by
      intro q
      have c := zc6
      rw [hr] at c
      exact absurd c (nI_ge (b := 24) q (by decide))
    rw [if_neg h24] at kk
    rw [hr, e2]
    exact kk
  · have h24 : m < 24 := by
      rcases Nat.lt_or_ge m 24 with q | q
      · exact q
      · refine absurd ?_ zc6
        show (24 : Int32) ≤ w_i w 17 3
        rw [hr, pI_le, nI_toInt (by omega)]
        have e : (24 : Int32).toInt = 24 := by decide
        omega
    refine g_aload_n dX0_note_9 rfl ?_
    refine g_getr dX0_note_10 fl_X0_15 h.1.1 h.1.2.2.1 ?_
    refine g_aload_n dX0_note_13 rfl ?_
    refine g_geti dX0_note_14 fl_X0_30 h.1.1 ?_
    rw [hr]
    refine g_iload_n dX0_note_17 rfl ?_
    refine g_iast dX0_note_18 h.1.2.2.2 (vp_in_nI h24 (by decide)) ?_
    refine g_aload_n dX0_note_19 rfl ?_
    refine g_dup dX0_note_20 rfl ?_
    refine g_geti dX0_note_21 fl_X0_30 h.1.1 ?_
    refine g_iconst (v := 1) dX0_note_24 rfl ?_
    refine g_iadd dX0_note_25 ?_
    refine g_puti dX0_note_26 fl_X0_30 ft_0_3 h.1.1 ?_
    refine g_vret dX0_note_29 rfl ⟨rfl, ?_⟩
    have e2 : (nI m : Int32) + 1 = nI (m + 1) := (nI_succ m).symm
    unfold bo_nt at kk
    rw [if_pos h24] at kk
    have e1 : w_i (s_a w 19 (va_up (w_a w 19) (nI m).toNatClampNeg x)) 17 3 = nI m := hr
    rw [e1, nI_n (by omega), e2]
    exact kk
