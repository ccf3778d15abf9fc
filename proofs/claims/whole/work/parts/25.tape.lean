/-! Tape: object 7, bytes 8 -/
theorem dX6_init_0 : gx_d mX6_init 0 (.aload_n 0) 1 := gx_dk (by decide +kernel)
theorem dX6_init_1 : gx_d mX6_init 1 (.invokespecial 1) 3 := gx_dk (by decide +kernel)
theorem dX6_init_4 : gx_d mX6_init 4 (.aload_n 0) 1 := gx_dk (by decide +kernel)
theorem dX6_init_5 : gx_d mX6_init 5 (.bipush 120) 2 := gx_dk (by decide +kernel)
theorem dX6_init_7 : gx_d mX6_init 7 (.newarray .int) 2 := gx_dk (by decide +kernel)
theorem dX6_init_9 : gx_d mX6_init 9 (.putfield 9) 3 := gx_dk (by decide +kernel)
theorem dX6_init_12 : gx_d mX6_init 12 (.return_) 1 := gx_dk (by decide +kernel)
theorem dX6_isFull_0 : gx_d mX6_isFull 0 (.aload_n 0) 1 := gx_dk (by decide +kernel)
theorem dX6_isFull_1 : gx_d mX6_isFull 1 (.getfield 13) 3 := gx_dk (by decide +kernel)
theorem dX6_isFull_4 : gx_d mX6_isFull 4 (.bipush 120) 2 := gx_dk (by decide +kernel)
theorem dX6_isFull_6 : gx_d mX6_isFull 6 (.if_icmp .lt 7) 3 := gx_dk (by decide +kernel)
theorem dX6_isFull_9 : gx_d mX6_isFull 9 (.iconst 1) 1 := gx_dk (by decide +kernel)
theorem dX6_isFull_10 : gx_d mX6_isFull 10 (.goto 4) 3 := gx_dk (by decide +kernel)
theorem dX6_isFull_13 : gx_d mX6_isFull 13 (.iconst 0) 1 := gx_dk (by decide +kernel)
theorem dX6_isFull_14 : gx_d mX6_isFull 14 (.ireturn) 1 := gx_dk (by decide +kernel)
theorem dX6_add_0 : gx_d mX6_add 0 (.aload_n 0) 1 := gx_dk (by decide +kernel)
theorem dX6_add_1 : gx_d mX6_add 1 (.invokevirtual 17) 3 := gx_dk (by decide +kernel)
theorem dX6_add_4 : gx_d mX6_add 4 (.ifCond .ne 23) 3 := gx_dk (by decide +kernel)
theorem dX6_add_7 : gx_d mX6_add 7 (.aload_n 0) 1 := gx_dk (by decide +kernel)
theorem dX6_add_8 : gx_d mX6_add 8 (.getfield 9) 3 := gx_dk (by decide +kernel)
theorem dX6_add_11 : gx_d mX6_add 11 (.aload_n 0) 1 := gx_dk (by decide +kernel)
theorem dX6_add_12 : gx_d mX6_add 12 (.getfield 13) 3 := gx_dk (by decide +kernel)
theorem dX6_add_15 : gx_d mX6_add 15 (.iload_n 1) 1 := gx_dk (by decide +kernel)
theorem dX6_add_16 : gx_d mX6_add 16 (.iastore) 1 := gx_dk (by decide +kernel)
theorem dX6_add_17 : gx_d mX6_add 17 (.aload_n 0) 1 := gx_dk (by decide +kernel)
theorem dX6_add_18 : gx_d mX6_add 18 (.dup) 1 := gx_dk (by decide +kernel)
theorem dX6_add_19 : gx_d mX6_add 19 (.getfield 13) 3 := gx_dk (by decide +kernel)
theorem dX6_add_22 : gx_d mX6_add 22 (.iconst 1) 1 := gx_dk (by decide +kernel)
theorem dX6_add_23 : gx_d mX6_add 23 (.iadd) 1 := gx_dk (by decide +kernel)
theorem dX6_add_24 : gx_d mX6_add 24 (.putfield 13) 3 := gx_dk (by decide +kernel)
theorem dX6_add_27 : gx_d mX6_add 27 (.aload_n 0) 1 := gx_dk (by decide +kernel)
theorem dX6_add_28 : gx_d mX6_add 28 (.getfield 13) 3 := gx_dk (by decide +kernel)
theorem dX6_add_31 : gx_d mX6_add 31 (.ireturn) 1 := gx_dk (by decide +kernel)
theorem dX6_readInto_0 : gx_d mX6_readInto 0 (.aload_n 1) 1 := gx_dk (by decide +kernel)
theorem dX6_readInto_1 : gx_d mX6_readInto 1 (.invokevirtual 21) 3 := gx_dk (by decide +kernel)
theorem dX6_readInto_4 : gx_d mX6_readInto 4 (.aload_n 0) 1 := gx_dk (by decide +kernel)
theorem dX6_readInto_5 : gx_d mX6_readInto 5 (.iconst 0) 1 := gx_dk (by decide +kernel)
theorem dX6_readInto_6 : gx_d mX6_readInto 6 (.putfield 26) 3 := gx_dk (by decide +kernel)
theorem dX6_readInto_9 : gx_d mX6_readInto 9 (.aload_n 0) 1 := gx_dk (by decide +kernel)
theorem dX6_readInto_10 : gx_d mX6_readInto 10 (.aload_n 1) 1 := gx_dk (by decide +kernel)
theorem dX6_readInto_11 : gx_d mX6_readInto 11 (.invokevirtual 29) 3 := gx_dk (by decide +kernel)
theorem dX6_readInto_14 : gx_d mX6_readInto 14 (.istore_n 2) 1 := gx_dk (by decide +kernel)
theorem dX6_readInto_15 : gx_d mX6_readInto 15 (.iload_n 2) 1 := gx_dk (by decide +kernel)
theorem dX6_readInto_16 : gx_d mX6_readInto 16 (.ifCond .eq 7) 3 := gx_dk (by decide +kernel)
theorem dX6_readInto_19 : gx_d mX6_readInto 19 (.iconst (-1)) 1 := gx_dk (by decide +kernel)
theorem dX6_readInto_20 : gx_d mX6_readInto 20 (.goto 7) 3 := gx_dk (by decide +kernel)
theorem dX6_readInto_23 : gx_d mX6_readInto 23 (.aload_n 0) 1 := gx_dk (by decide +kernel)
theorem dX6_readInto_24 : gx_d mX6_readInto 24 (.getfield 26) 3 := gx_dk (by decide +kernel)
theorem dX6_readInto_27 : gx_d mX6_readInto 27 (.istore_n 3) 1 := gx_dk (by decide +kernel)
theorem dX6_readInto_28 : gx_d mX6_readInto 28 (.aload_n 0) 1 := gx_dk (by decide +kernel)
theorem dX6_readInto_29 : gx_d mX6_readInto 29 (.iconst 0) 1 := gx_dk (by decide +kernel)
theorem dX6_readInto_30 : gx_d mX6_readInto 30 (.putfield 13) 3 := gx_dk (by decide +kernel)
theorem dX6_readInto_33 : gx_d mX6_readInto 33 (.iload_n 3) 1 := gx_dk (by decide +kernel)
theorem dX6_readInto_34 : gx_d mX6_readInto 34 (.ireturn) 1 := gx_dk (by decide +kernel)
theorem dX6_here_0 : gx_d mX6_here 0 (.aload_n 0) 1 := gx_dk (by decide +kernel)
theorem dX6_here_1 : gx_d mX6_here 1 (.getfield 26) 3 := gx_dk (by decide +kernel)
theorem dX6_here_4 : gx_d mX6_here 4 (.ifCond .lt 26) 3 := gx_dk (by decide +kernel)
theorem dX6_here_7 : gx_d mX6_here 7 (.aload_n 0) 1 := gx_dk (by decide +kernel)
theorem dX6_here_8 : gx_d mX6_here 8 (.getfield 26) 3 := gx_dk (by decide +kernel)
theorem dX6_here_11 : gx_d mX6_here 11 (.aload_n 0) 1 := gx_dk (by decide +kernel)
theorem dX6_here_12 : gx_d mX6_here 12 (.getfield 13) 3 := gx_dk (by decide +kernel)
theorem dX6_here_15 : gx_d mX6_here 15 (.if_icmp .ge 15) 3 := gx_dk (by decide +kernel)
theorem dX6_here_18 : gx_d mX6_here 18 (.aload_n 0) 1 := gx_dk (by decide +kernel)
theorem dX6_here_19 : gx_d mX6_here 19 (.getfield 9) 3 := gx_dk (by decide +kernel)
theorem dX6_here_22 : gx_d mX6_here 22 (.aload_n 0) 1 := gx_dk (by decide +kernel)
theorem dX6_here_23 : gx_d mX6_here 23 (.getfield 26) 3 := gx_dk (by decide +kernel)
theorem dX6_here_26 : gx_d mX6_here 26 (.iaload) 1 := gx_dk (by decide +kernel)
theorem dX6_here_27 : gx_d mX6_here 27 (.goto 4) 3 := gx_dk (by decide +kernel)
theorem dX6_here_30 : gx_d mX6_here 30 (.iconst (-1)) 1 := gx_dk (by decide +kernel)
theorem dX6_here_31 : gx_d mX6_here 31 (.ireturn) 1 := gx_dk (by decide +kernel)
theorem dX6_readLines_0 : gx_d mX6_readLines 0 (.iconst 0) 1 := gx_dk (by decide +kernel)
theorem dX6_readLines_1 : gx_d mX6_readLines 1 (.istore_n 2) 1 := gx_dk (by decide +kernel)
theorem dX6_readLines_2 : gx_d mX6_readLines 2 (.iload_n 2) 1 := gx_dk (by decide +kernel)
theorem dX6_readLines_3 : gx_d mX6_readLines 3 (.bipush 120) 2 := gx_dk (by decide +kernel)
theorem dX6_readLines_5 : gx_d mX6_readLines 5 (.if_icmp .ge 52) 3 := gx_dk (by decide +kernel)
theorem dX6_readLines_8 : gx_d mX6_readLines 8 (.aload_n 0) 1 := gx_dk (by decide +kernel)
theorem dX6_readLines_9 : gx_d mX6_readLines 9 (.aload_n 1) 1 := gx_dk (by decide +kernel)
theorem dX6_readLines_10 : gx_d mX6_readLines 10 (.invokevirtual 33) 3 := gx_dk (by decide +kernel)
theorem dX6_readLines_13 : gx_d mX6_readLines 13 (.ifCond .ne 5) 3 := gx_dk (by decide +kernel)
theorem dX6_readLines_16 : gx_d mX6_readLines 16 (.iconst 0) 1 := gx_dk (by decide +kernel)
theorem dX6_readLines_17 : gx_d mX6_readLines 17 (.ireturn) 1 := gx_dk (by decide +kernel)
theorem dX6_readLines_18 : gx_d mX6_readLines 18 (.aload_n 0) 1 := gx_dk (by decide +kernel)
theorem dX6_readLines_19 : gx_d mX6_readLines 19 (.invokevirtual 36) 3 := gx_dk (by decide +kernel)
theorem dX6_readLines_22 : gx_d mX6_readLines 22 (.bipush 59) 2 := gx_dk (by decide +kernel)
theorem dX6_readLines_24 : gx_d mX6_readLines 24 (.if_icmp .eq 17) 3 := gx_dk (by decide +kernel)
theorem dX6_readLines_27 : gx_d mX6_readLines 27 (.aload_n 0) 1 := gx_dk (by decide +kernel)
theorem dX6_readLines_28 : gx_d mX6_readLines 28 (.invokevirtual 36) 3 := gx_dk (by decide +kernel)
theorem dX6_readLines_31 : gx_d mX6_readLines 31 (.iconst (-1)) 1 := gx_dk (by decide +kernel)
theorem dX6_readLines_32 : gx_d mX6_readLines 32 (.if_icmp .ne 7) 3 := gx_dk (by decide +kernel)
theorem dX6_readLines_35 : gx_d mX6_readLines 35 (.iconst 1) 1 := gx_dk (by decide +kernel)
theorem dX6_readLines_36 : gx_d mX6_readLines 36 (.goto 4) 3 := gx_dk (by decide +kernel)
theorem dX6_readLines_39 : gx_d mX6_readLines 39 (.iconst 0) 1 := gx_dk (by decide +kernel)
theorem dX6_readLines_40 : gx_d mX6_readLines 40 (.ireturn) 1 := gx_dk (by decide +kernel)
theorem dX6_readLines_41 : gx_d mX6_readLines 41 (.aload_n 0) 1 := gx_dk (by decide +kernel)
theorem dX6_readLines_42 : gx_d mX6_readLines 42 (.dup) 1 := gx_dk (by decide +kernel)
theorem dX6_readLines_43 : gx_d mX6_readLines 43 (.getfield 26) 3 := gx_dk (by decide +kernel)
theorem dX6_readLines_46 : gx_d mX6_readLines 46 (.iconst 1) 1 := gx_dk (by decide +kernel)
theorem dX6_readLines_47 : gx_d mX6_readLines 47 (.iadd) 1 := gx_dk (by decide +kernel)
theorem dX6_readLines_48 : gx_d mX6_readLines 48 (.putfield 26) 3 := gx_dk (by decide +kernel)
theorem dX6_readLines_51 : gx_d mX6_readLines 51 (.iinc 2 1) 3 := gx_dk (by decide +kernel)
theorem dX6_readLines_54 : gx_d mX6_readLines 54 (.goto (-52)) 3 := gx_dk (by decide +kernel)
theorem dX6_readLines_57 : gx_d mX6_readLines 57 (.iconst 0) 1 := gx_dk (by decide +kernel)
theorem dX6_readLines_58 : gx_d mX6_readLines 58 (.ireturn) 1 := gx_dk (by decide +kernel)
theorem dX6_readLine_0 : gx_d mX6_readLine 0 (.aload_n 0) 1 := gx_dk (by decide +kernel)
theorem dX6_readLine_1 : gx_d mX6_readLine 1 (.aload_n 1) 1 := gx_dk (by decide +kernel)
theorem dX6_readLine_2 : gx_d mX6_readLine 2 (.iconst 0) 1 := gx_dk (by decide +kernel)
theorem dX6_readLine_3 : gx_d mX6_readLine 3 (.iconst 0) 1 := gx_dk (by decide +kernel)
theorem dX6_readLine_4 : gx_d mX6_readLine 4 (.invokevirtual 40) 3 := gx_dk (by decide +kernel)
theorem dX6_readLine_7 : gx_d mX6_readLine 7 (.ifCond .ne 5) 3 := gx_dk (by decide +kernel)
theorem dX6_readLine_10 : gx_d mX6_readLine 10 (.iconst 0) 1 := gx_dk (by decide +kernel)
theorem dX6_readLine_11 : gx_d mX6_readLine 11 (.ireturn) 1 := gx_dk (by decide +kernel)
theorem dX6_readLine_12 : gx_d mX6_readLine 12 (.aload_n 0) 1 := gx_dk (by decide +kernel)
theorem dX6_readLine_13 : gx_d mX6_readLine 13 (.invokevirtual 36) 3 := gx_dk (by decide +kernel)
theorem dX6_readLine_16 : gx_d mX6_readLine 16 (.bipush 63) 2 := gx_dk (by decide +kernel)
theorem dX6_readLine_18 : gx_d mX6_readLine 18 (.if_icmp .ne 32) 3 := gx_dk (by decide +kernel)
theorem dX6_readLine_21 : gx_d mX6_readLine 21 (.aload_n 0) 1 := gx_dk (by decide +kernel)
theorem dX6_readLine_22 : gx_d mX6_readLine 22 (.dup) 1 := gx_dk (by decide +kernel)
theorem dX6_readLine_23 : gx_d mX6_readLine 23 (.getfield 26) 3 := gx_dk (by decide +kernel)
theorem dX6_readLine_26 : gx_d mX6_readLine 26 (.iconst 1) 1 := gx_dk (by decide +kernel)
theorem dX6_readLine_27 : gx_d mX6_readLine 27 (.iadd) 1 := gx_dk (by decide +kernel)
theorem dX6_readLine_28 : gx_d mX6_readLine 28 (.putfield 26) 3 := gx_dk (by decide +kernel)
theorem dX6_readLine_31 : gx_d mX6_readLine 31 (.aload_n 1) 1 := gx_dk (by decide +kernel)
theorem dX6_readLine_32 : gx_d mX6_readLine 32 (.bipush 63) 2 := gx_dk (by decide +kernel)
theorem dX6_readLine_34 : gx_d mX6_readLine 34 (.iconst 0) 1 := gx_dk (by decide +kernel)
theorem dX6_readLine_35 : gx_d mX6_readLine 35 (.invokevirtual 44) 3 := gx_dk (by decide +kernel)
theorem dX6_readLine_38 : gx_d mX6_readLine 38 (.aload_n 0) 1 := gx_dk (by decide +kernel)
theorem dX6_readLine_39 : gx_d mX6_readLine 39 (.aload_n 1) 1 := gx_dk (by decide +kernel)
theorem dX6_readLine_40 : gx_d mX6_readLine 40 (.iconst 0) 1 := gx_dk (by decide +kernel)
theorem dX6_readLine_41 : gx_d mX6_readLine 41 (.iconst 0) 1 := gx_dk (by decide +kernel)
theorem dX6_readLine_42 : gx_d mX6_readLine 42 (.invokevirtual 40) 3 := gx_dk (by decide +kernel)
theorem dX6_readLine_45 : gx_d mX6_readLine 45 (.ifCond .ne 5) 3 := gx_dk (by decide +kernel)
theorem dX6_readLine_48 : gx_d mX6_readLine 48 (.iconst 0) 1 := gx_dk (by decide +kernel)
theorem dX6_readLine_49 : gx_d mX6_readLine 49 (.ireturn) 1 := gx_dk (by decide +kernel)
theorem dX6_readLine_50 : gx_d mX6_readLine 50 (.aload_n 1) 1 := gx_dk (by decide +kernel)
theorem dX6_readLine_51 : gx_d mX6_readLine 51 (.bipush 59) 2 := gx_dk (by decide +kernel)
theorem dX6_readLine_53 : gx_d mX6_readLine 53 (.iconst 0) 1 := gx_dk (by decide +kernel)
theorem dX6_readLine_54 : gx_d mX6_readLine 54 (.invokevirtual 44) 3 := gx_dk (by decide +kernel)
theorem dX6_readLine_57 : gx_d mX6_readLine 57 (.iconst 1) 1 := gx_dk (by decide +kernel)
theorem dX6_readLine_58 : gx_d mX6_readLine 58 (.ireturn) 1 := gx_dk (by decide +kernel)
theorem dX6_readJoined_0 : gx_d mX6_readJoined 0 (.iload_n 2) 1 := gx_dk (by decide +kernel)
theorem dX6_readJoined_1 : gx_d mX6_readJoined 1 (.iconst 5) 1 := gx_dk (by decide +kernel)
theorem dX6_readJoined_2 : gx_d mX6_readJoined 2 (.if_icmp .lt 10) 3 := gx_dk (by decide +kernel)
theorem dX6_readJoined_5 : gx_d mX6_readJoined 5 (.aload_n 0) 1 := gx_dk (by decide +kernel)
theorem dX6_readJoined_6 : gx_d mX6_readJoined 6 (.aload_n 1) 1 := gx_dk (by decide +kernel)
theorem dX6_readJoined_7 : gx_d mX6_readJoined 7 (.iload_n 3) 1 := gx_dk (by decide +kernel)
theorem dX6_readJoined_8 : gx_d mX6_readJoined 8 (.invokevirtual 48) 3 := gx_dk (by decide +kernel)
theorem dX6_readJoined_11 : gx_d mX6_readJoined 11 (.ireturn) 1 := gx_dk (by decide +kernel)
theorem dX6_readJoined_12 : gx_d mX6_readJoined 12 (.aload_n 0) 1 := gx_dk (by decide +kernel)
theorem dX6_readJoined_13 : gx_d mX6_readJoined 13 (.aload_n 1) 1 := gx_dk (by decide +kernel)
theorem dX6_readJoined_14 : gx_d mX6_readJoined 14 (.iload_n 2) 1 := gx_dk (by decide +kernel)
theorem dX6_readJoined_15 : gx_d mX6_readJoined 15 (.iconst 1) 1 := gx_dk (by decide +kernel)
theorem dX6_readJoined_16 : gx_d mX6_readJoined 16 (.iadd) 1 := gx_dk (by decide +kernel)
theorem dX6_readJoined_17 : gx_d mX6_readJoined 17 (.iload_n 3) 1 := gx_dk (by decide +kernel)
theorem dX6_readJoined_18 : gx_d mX6_readJoined 18 (.invokevirtual 40) 3 := gx_dk (by decide +kernel)
theorem dX6_readJoined_21 : gx_d mX6_readJoined 21 (.ifCond .ne 5) 3 := gx_dk (by decide +kernel)
theorem dX6_readJoined_24 : gx_d mX6_readJoined 24 (.iconst 0) 1 := gx_dk (by decide +kernel)
theorem dX6_readJoined_25 : gx_d mX6_readJoined 25 (.ireturn) 1 := gx_dk (by decide +kernel)
theorem dX6_readJoined_26 : gx_d mX6_readJoined 26 (.iload_n 2) 1 := gx_dk (by decide +kernel)
theorem dX6_readJoined_27 : gx_d mX6_readJoined 27 (.iconst 2) 1 := gx_dk (by decide +kernel)
theorem dX6_readJoined_28 : gx_d mX6_readJoined 28 (.if_icmp .ne 7) 3 := gx_dk (by decide +kernel)
theorem dX6_readJoined_31 : gx_d mX6_readJoined 31 (.iconst 1) 1 := gx_dk (by decide +kernel)
theorem dX6_readJoined_32 : gx_d mX6_readJoined 32 (.goto 5) 3 := gx_dk (by decide +kernel)
theorem dX6_readJoined_35 : gx_d mX6_readJoined 35 (.bipush 120) 2 := gx_dk (by decide +kernel)
theorem dX6_readJoined_37 : gx_d mX6_readJoined 37 (.istore 4) 2 := gx_dk (by decide +kernel)
theorem dX6_readJoined_39 : gx_d mX6_readJoined 39 (.iconst 0) 1 := gx_dk (by decide +kernel)
theorem dX6_readJoined_40 : gx_d mX6_readJoined 40 (.istore 5) 2 := gx_dk (by decide +kernel)
theorem dX6_readJoined_42 : gx_d mX6_readJoined 42 (.iload 5) 2 := gx_dk (by decide +kernel)
theorem dX6_readJoined_44 : gx_d mX6_readJoined 44 (.iload 4) 2 := gx_dk (by decide +kernel)
theorem dX6_readJoined_46 : gx_d mX6_readJoined 46 (.if_icmp .ge 57) 3 := gx_dk (by decide +kernel)
theorem dX6_readJoined_49 : gx_d mX6_readJoined 49 (.iload_n 2) 1 := gx_dk (by decide +kernel)
theorem dX6_readJoined_50 : gx_d mX6_readJoined 50 (.aload_n 0) 1 := gx_dk (by decide +kernel)
theorem dX6_readJoined_51 : gx_d mX6_readJoined 51 (.invokevirtual 36) 3 := gx_dk (by decide +kernel)
theorem dX6_readJoined_54 : gx_d mX6_readJoined 54 (.invokestatic 52) 3 := gx_dk (by decide +kernel)
theorem dX6_readJoined_57 : gx_d mX6_readJoined 57 (.ifCond .eq 46) 3 := gx_dk (by decide +kernel)
theorem dX6_readJoined_60 : gx_d mX6_readJoined 60 (.aload_n 0) 1 := gx_dk (by decide +kernel)
theorem dX6_readJoined_61 : gx_d mX6_readJoined 61 (.invokevirtual 36) 3 := gx_dk (by decide +kernel)
theorem dX6_readJoined_64 : gx_d mX6_readJoined 64 (.istore 6) 2 := gx_dk (by decide +kernel)
theorem dX6_readJoined_66 : gx_d mX6_readJoined 66 (.aload_n 0) 1 := gx_dk (by decide +kernel)
theorem dX6_readJoined_67 : gx_d mX6_readJoined 67 (.dup) 1 := gx_dk (by decide +kernel)
theorem dX6_readJoined_68 : gx_d mX6_readJoined 68 (.getfield 26) 3 := gx_dk (by decide +kernel)
theorem dX6_readJoined_71 : gx_d mX6_readJoined 71 (.iconst 1) 1 := gx_dk (by decide +kernel)
theorem dX6_readJoined_72 : gx_d mX6_readJoined 72 (.iadd) 1 := gx_dk (by decide +kernel)
theorem dX6_readJoined_73 : gx_d mX6_readJoined 73 (.putfield 26) 3 := gx_dk (by decide +kernel)
theorem dX6_readJoined_76 : gx_d mX6_readJoined 76 (.aload_n 0) 1 := gx_dk (by decide +kernel)
theorem dX6_readJoined_77 : gx_d mX6_readJoined 77 (.aload_n 1) 1 := gx_dk (by decide +kernel)
theorem dX6_readJoined_78 : gx_d mX6_readJoined 78 (.iload_n 2) 1 := gx_dk (by decide +kernel)
theorem dX6_readJoined_79 : gx_d mX6_readJoined 79 (.iconst 1) 1 := gx_dk (by decide +kernel)
theorem dX6_readJoined_80 : gx_d mX6_readJoined 80 (.iadd) 1 := gx_dk (by decide +kernel)
theorem dX6_readJoined_81 : gx_d mX6_readJoined 81 (.iload_n 3) 1 := gx_dk (by decide +kernel)
theorem dX6_readJoined_82 : gx_d mX6_readJoined 82 (.invokevirtual 40) 3 := gx_dk (by decide +kernel)
theorem dX6_readJoined_85 : gx_d mX6_readJoined 85 (.ifCond .ne 5) 3 := gx_dk (by decide +kernel)
theorem dX6_readJoined_88 : gx_d mX6_readJoined 88 (.iconst 0) 1 := gx_dk (by decide +kernel)
theorem dX6_readJoined_89 : gx_d mX6_readJoined 89 (.ireturn) 1 := gx_dk (by decide +kernel)
theorem dX6_readJoined_90 : gx_d mX6_readJoined 90 (.aload_n 1) 1 := gx_dk (by decide +kernel)
theorem dX6_readJoined_91 : gx_d mX6_readJoined 91 (.iload 6) 2 := gx_dk (by decide +kernel)
theorem dX6_readJoined_93 : gx_d mX6_readJoined 93 (.iconst 0) 1 := gx_dk (by decide +kernel)
theorem dX6_readJoined_94 : gx_d mX6_readJoined 94 (.invokevirtual 44) 3 := gx_dk (by decide +kernel)
theorem dX6_readJoined_97 : gx_d mX6_readJoined 97 (.iinc 5 1) 3 := gx_dk (by decide +kernel)
theorem dX6_readJoined_100 : gx_d mX6_readJoined 100 (.goto (-58)) 3 := gx_dk (by decide +kernel)
theorem dX6_readJoined_103 : gx_d mX6_readJoined 103 (.iconst 1) 1 := gx_dk (by decide +kernel)
theorem dX6_readJoined_104 : gx_d mX6_readJoined 104 (.ireturn) 1 := gx_dk (by decide +kernel)
theorem dX6_joins_0 : gx_d mX6_joins 0 (.iload_n 0) 1 := gx_dk (by decide +kernel)
theorem dX6_joins_1 : gx_d mX6_joins 1 (.tableswitch 125 0 4 #[35, 47, 59, 83, 101]) 35 := gx_dk (by decide +kernel)
theorem dX6_joins_36 : gx_d mX6_joins 36 (.iload_n 1) 1 := gx_dk (by decide +kernel)
theorem dX6_joins_37 : gx_d mX6_joins 37 (.bipush 124) 2 := gx_dk (by decide +kernel)
theorem dX6_joins_39 : gx_d mX6_joins 39 (.if_icmp .ne 7) 3 := gx_dk (by decide +kernel)
theorem dX6_joins_42 : gx_d mX6_joins 42 (.iconst 1) 1 := gx_dk (by decide +kernel)
theorem dX6_joins_43 : gx_d mX6_joins 43 (.goto 4) 3 := gx_dk (by decide +kernel)
theorem dX6_joins_46 : gx_d mX6_joins 46 (.iconst 0) 1 := gx_dk (by decide +kernel)
theorem dX6_joins_47 : gx_d mX6_joins 47 (.ireturn) 1 := gx_dk (by decide +kernel)
theorem dX6_joins_48 : gx_d mX6_joins 48 (.iload_n 1) 1 := gx_dk (by decide +kernel)
theorem dX6_joins_49 : gx_d mX6_joins 49 (.bipush 38) 2 := gx_dk (by decide +kernel)
theorem dX6_joins_51 : gx_d mX6_joins 51 (.if_icmp .ne 7) 3 := gx_dk (by decide +kernel)
theorem dX6_joins_54 : gx_d mX6_joins 54 (.iconst 1) 1 := gx_dk (by decide +kernel)
theorem dX6_joins_55 : gx_d mX6_joins 55 (.goto 4) 3 := gx_dk (by decide +kernel)
theorem dX6_joins_58 : gx_d mX6_joins 58 (.iconst 0) 1 := gx_dk (by decide +kernel)
theorem dX6_joins_59 : gx_d mX6_joins 59 (.ireturn) 1 := gx_dk (by decide +kernel)
theorem dX6_joins_60 : gx_d mX6_joins 60 (.iload_n 1) 1 := gx_dk (by decide +kernel)
theorem dX6_joins_61 : gx_d mX6_joins 61 (.bipush 60) 2 := gx_dk (by decide +kernel)
theorem dX6_joins_63 : gx_d mX6_joins 63 (.if_icmp .eq 15) 3 := gx_dk (by decide +kernel)
theorem dX6_joins_66 : gx_d mX6_joins 66 (.iload_n 1) 1 := gx_dk (by decide +kernel)
theorem dX6_joins_67 : gx_d mX6_joins 67 (.bipush 61) 2 := gx_dk (by decide +kernel)
theorem dX6_joins_69 : gx_d mX6_joins 69 (.if_icmp .eq 9) 3 := gx_dk (by decide +kernel)
theorem dX6_joins_72 : gx_d mX6_joins 72 (.iload_n 1) 1 := gx_dk (by decide +kernel)
theorem dX6_joins_73 : gx_d mX6_joins 73 (.bipush 62) 2 := gx_dk (by decide +kernel)
theorem dX6_joins_75 : gx_d mX6_joins 75 (.if_icmp .ne 7) 3 := gx_dk (by decide +kernel)
theorem dX6_joins_78 : gx_d mX6_joins 78 (.iconst 1) 1 := gx_dk (by decide +kernel)
theorem dX6_joins_79 : gx_d mX6_joins 79 (.goto 4) 3 := gx_dk (by decide +kernel)
theorem dX6_joins_82 : gx_d mX6_joins 82 (.iconst 0) 1 := gx_dk (by decide +kernel)
theorem dX6_joins_83 : gx_d mX6_joins 83 (.ireturn) 1 := gx_dk (by decide +kernel)
theorem dX6_joins_84 : gx_d mX6_joins 84 (.iload_n 1) 1 := gx_dk (by decide +kernel)
theorem dX6_joins_85 : gx_d mX6_joins 85 (.bipush 43) 2 := gx_dk (by decide +kernel)
theorem dX6_joins_87 : gx_d mX6_joins 87 (.if_icmp .eq 9) 3 := gx_dk (by decide +kernel)
theorem dX6_joins_90 : gx_d mX6_joins 90 (.iload_n 1) 1 := gx_dk (by decide +kernel)
theorem dX6_joins_91 : gx_d mX6_joins 91 (.bipush 45) 2 := gx_dk (by decide +kernel)
theorem dX6_joins_93 : gx_d mX6_joins 93 (.if_icmp .ne 7) 3 := gx_dk (by decide +kernel)
theorem dX6_joins_96 : gx_d mX6_joins 96 (.iconst 1) 1 := gx_dk (by decide +kernel)
theorem dX6_joins_97 : gx_d mX6_joins 97 (.goto 4) 3 := gx_dk (by decide +kernel)
theorem dX6_joins_100 : gx_d mX6_joins 100 (.iconst 0) 1 := gx_dk (by decide +kernel)
theorem dX6_joins_101 : gx_d mX6_joins 101 (.ireturn) 1 := gx_dk (by decide +kernel)
theorem dX6_joins_102 : gx_d mX6_joins 102 (.iload_n 1) 1 := gx_dk (by decide +kernel)
theorem dX6_joins_103 : gx_d mX6_joins 103 (.bipush 42) 2 := gx_dk (by decide +kernel)
theorem dX6_joins_105 : gx_d mX6_joins 105 (.if_icmp .eq 15) 3 := gx_dk (by decide +kernel)
theorem dX6_joins_108 : gx_d mX6_joins 108 (.iload_n 1) 1 := gx_dk (by decide +kernel)
theorem dX6_joins_109 : gx_d mX6_joins 109 (.bipush 47) 2 := gx_dk (by decide +kernel)
theorem dX6_joins_111 : gx_d mX6_joins 111 (.if_icmp .eq 9) 3 := gx_dk (by decide +kernel)
theorem dX6_joins_114 : gx_d mX6_joins 114 (.iload_n 1) 1 := gx_dk (by decide +kernel)
theorem dX6_joins_115 : gx_d mX6_joins 115 (.bipush 37) 2 := gx_dk (by decide +kernel)
theorem dX6_joins_117 : gx_d mX6_joins 117 (.if_icmp .ne 7) 3 := gx_dk (by decide +kernel)
theorem dX6_joins_120 : gx_d mX6_joins 120 (.iconst 1) 1 := gx_dk (by decide +kernel)
theorem dX6_joins_121 : gx_d mX6_joins 121 (.goto 4) 3 := gx_dk (by decide +kernel)
theorem dX6_joins_124 : gx_d mX6_joins 124 (.iconst 0) 1 := gx_dk (by decide +kernel)
theorem dX6_joins_125 : gx_d mX6_joins 125 (.ireturn) 1 := gx_dk (by decide +kernel)
theorem dX6_joins_126 : gx_d mX6_joins 126 (.iconst 0) 1 := gx_dk (by decide +kernel)
theorem dX6_joins_127 : gx_d mX6_joins 127 (.ireturn) 1 := gx_dk (by decide +kernel)
theorem dX6_readOperand_0 : gx_d mX6_readOperand 0 (.aload_n 0) 1 := gx_dk (by decide +kernel)
theorem dX6_readOperand_1 : gx_d mX6_readOperand 1 (.invokevirtual 36) 3 := gx_dk (by decide +kernel)
theorem dX6_readOperand_4 : gx_d mX6_readOperand 4 (.istore_n 3) 1 := gx_dk (by decide +kernel)
theorem dX6_readOperand_5 : gx_d mX6_readOperand 5 (.iload_n 3) 1 := gx_dk (by decide +kernel)
theorem dX6_readOperand_6 : gx_d mX6_readOperand 6 (.invokestatic 56) 3 := gx_dk (by decide +kernel)
theorem dX6_readOperand_9 : gx_d mX6_readOperand 9 (.ifCond .eq 10) 3 := gx_dk (by decide +kernel)
theorem dX6_readOperand_12 : gx_d mX6_readOperand 12 (.aload_n 0) 1 := gx_dk (by decide +kernel)
theorem dX6_readOperand_13 : gx_d mX6_readOperand 13 (.aload_n 1) 1 := gx_dk (by decide +kernel)
theorem dX6_readOperand_14 : gx_d mX6_readOperand 14 (.invokevirtual 60) 3 := gx_dk (by decide +kernel)
theorem dX6_readOperand_17 : gx_d mX6_readOperand 17 (.iconst 1) 1 := gx_dk (by decide +kernel)
theorem dX6_readOperand_18 : gx_d mX6_readOperand 18 (.ireturn) 1 := gx_dk (by decide +kernel)
theorem dX6_readOperand_19 : gx_d mX6_readOperand 19 (.iload_n 3) 1 := gx_dk (by decide +kernel)
theorem dX6_readOperand_20 : gx_d mX6_readOperand 20 (.invokestatic 64) 3 := gx_dk (by decide +kernel)
theorem dX6_readOperand_23 : gx_d mX6_readOperand 23 (.istore 4) 2 := gx_dk (by decide +kernel)
theorem dX6_readOperand_25 : gx_d mX6_readOperand 25 (.iload 4) 2 := gx_dk (by decide +kernel)
theorem dX6_readOperand_27 : gx_d mX6_readOperand 27 (.ifCond .lt 23) 3 := gx_dk (by decide +kernel)
theorem dX6_readOperand_30 : gx_d mX6_readOperand 30 (.aload_n 0) 1 := gx_dk (by decide +kernel)
theorem dX6_readOperand_31 : gx_d mX6_readOperand 31 (.dup) 1 := gx_dk (by decide +kernel)
theorem dX6_readOperand_32 : gx_d mX6_readOperand 32 (.getfield 26) 3 := gx_dk (by decide +kernel)
theorem dX6_readOperand_35 : gx_d mX6_readOperand 35 (.iconst 1) 1 := gx_dk (by decide +kernel)
theorem dX6_readOperand_36 : gx_d mX6_readOperand 36 (.iadd) 1 := gx_dk (by decide +kernel)
theorem dX6_readOperand_37 : gx_d mX6_readOperand 37 (.putfield 26) 3 := gx_dk (by decide +kernel)
theorem dX6_readOperand_40 : gx_d mX6_readOperand 40 (.aload_n 1) 1 := gx_dk (by decide +kernel)
theorem dX6_readOperand_41 : gx_d mX6_readOperand 41 (.bipush 110) 2 := gx_dk (by decide +kernel)
theorem dX6_readOperand_43 : gx_d mX6_readOperand 43 (.iload 4) 2 := gx_dk (by decide +kernel)
theorem dX6_readOperand_45 : gx_d mX6_readOperand 45 (.invokevirtual 44) 3 := gx_dk (by decide +kernel)
theorem dX6_readOperand_48 : gx_d mX6_readOperand 48 (.iconst 1) 1 := gx_dk (by decide +kernel)
theorem dX6_readOperand_49 : gx_d mX6_readOperand 49 (.ireturn) 1 := gx_dk (by decide +kernel)
theorem dX6_readOperand_50 : gx_d mX6_readOperand 50 (.iload_n 3) 1 := gx_dk (by decide +kernel)
theorem dX6_readOperand_51 : gx_d mX6_readOperand 51 (.bipush 40) 2 := gx_dk (by decide +kernel)
theorem dX6_readOperand_53 : gx_d mX6_readOperand 53 (.if_icmp .eq 15) 3 := gx_dk (by decide +kernel)
theorem dX6_readOperand_56 : gx_d mX6_readOperand 56 (.iload_n 3) 1 := gx_dk (by decide +kernel)
theorem dX6_readOperand_57 : gx_d mX6_readOperand 57 (.bipush 33) 2 := gx_dk (by decide +kernel)
theorem dX6_readOperand_59 : gx_d mX6_readOperand 59 (.if_icmp .eq 9) 3 := gx_dk (by decide +kernel)
theorem dX6_readOperand_62 : gx_d mX6_readOperand 62 (.iload_n 3) 1 := gx_dk (by decide +kernel)
theorem dX6_readOperand_63 : gx_d mX6_readOperand 63 (.bipush 45) 2 := gx_dk (by decide +kernel)
theorem dX6_readOperand_65 : gx_d mX6_readOperand 65 (.if_icmp .ne 7) 3 := gx_dk (by decide +kernel)
theorem dX6_readOperand_68 : gx_d mX6_readOperand 68 (.iconst 1) 1 := gx_dk (by decide +kernel)
theorem dX6_readOperand_69 : gx_d mX6_readOperand 69 (.goto 4) 3 := gx_dk (by decide +kernel)
theorem dX6_readOperand_72 : gx_d mX6_readOperand 72 (.iconst 0) 1 := gx_dk (by decide +kernel)
theorem dX6_readOperand_73 : gx_d mX6_readOperand 73 (.istore 5) 2 := gx_dk (by decide +kernel)
theorem dX6_readOperand_75 : gx_d mX6_readOperand 75 (.iload 5) 2 := gx_dk (by decide +kernel)
theorem dX6_readOperand_77 : gx_d mX6_readOperand 77 (.ifCond .eq 9) 3 := gx_dk (by decide +kernel)
theorem dX6_readOperand_80 : gx_d mX6_readOperand 80 (.iload_n 2) 1 := gx_dk (by decide +kernel)
theorem dX6_readOperand_81 : gx_d mX6_readOperand 81 (.bipush 6) 2 := gx_dk (by decide +kernel)
theorem dX6_readOperand_83 : gx_d mX6_readOperand 83 (.if_icmp .lt 5) 3 := gx_dk (by decide +kernel)
theorem dX6_readOperand_86 : gx_d mX6_readOperand 86 (.iconst 0) 1 := gx_dk (by decide +kernel)
theorem dX6_readOperand_87 : gx_d mX6_readOperand 87 (.ireturn) 1 := gx_dk (by decide +kernel)
theorem dX6_readOperand_88 : gx_d mX6_readOperand 88 (.aload_n 0) 1 := gx_dk (by decide +kernel)
theorem dX6_readOperand_89 : gx_d mX6_readOperand 89 (.dup) 1 := gx_dk (by decide +kernel)
theorem dX6_readOperand_90 : gx_d mX6_readOperand 90 (.getfield 26) 3 := gx_dk (by decide +kernel)
theorem dX6_readOperand_93 : gx_d mX6_readOperand 93 (.iconst 1) 1 := gx_dk (by decide +kernel)
theorem dX6_readOperand_94 : gx_d mX6_readOperand 94 (.iadd) 1 := gx_dk (by decide +kernel)
theorem dX6_readOperand_95 : gx_d mX6_readOperand 95 (.putfield 26) 3 := gx_dk (by decide +kernel)
theorem dX6_readOperand_98 : gx_d mX6_readOperand 98 (.iload_n 3) 1 := gx_dk (by decide +kernel)
theorem dX6_readOperand_99 : gx_d mX6_readOperand 99 (.bipush 40) 2 := gx_dk (by decide +kernel)
theorem dX6_readOperand_101 : gx_d mX6_readOperand 101 (.if_icmp .ne 14) 3 := gx_dk (by decide +kernel)
theorem dX6_readOperand_104 : gx_d mX6_readOperand 104 (.aload_n 0) 1 := gx_dk (by decide +kernel)
theorem dX6_readOperand_105 : gx_d mX6_readOperand 105 (.aload_n 1) 1 := gx_dk (by decide +kernel)
theorem dX6_readOperand_106 : gx_d mX6_readOperand 106 (.iload_n 2) 1 := gx_dk (by decide +kernel)
theorem dX6_readOperand_107 : gx_d mX6_readOperand 107 (.iconst 1) 1 := gx_dk (by decide +kernel)
theorem dX6_readOperand_108 : gx_d mX6_readOperand 108 (.iadd) 1 := gx_dk (by decide +kernel)
theorem dX6_readOperand_109 : gx_d mX6_readOperand 109 (.invokevirtual 68) 3 := gx_dk (by decide +kernel)
theorem dX6_readOperand_112 : gx_d mX6_readOperand 112 (.goto 12) 3 := gx_dk (by decide +kernel)
theorem dX6_readOperand_115 : gx_d mX6_readOperand 115 (.aload_n 0) 1 := gx_dk (by decide +kernel)
theorem dX6_readOperand_116 : gx_d mX6_readOperand 116 (.aload_n 1) 1 := gx_dk (by decide +kernel)
theorem dX6_readOperand_117 : gx_d mX6_readOperand 117 (.iload_n 3) 1 := gx_dk (by decide +kernel)
theorem dX6_readOperand_118 : gx_d mX6_readOperand 118 (.iload_n 2) 1 := gx_dk (by decide +kernel)
theorem dX6_readOperand_119 : gx_d mX6_readOperand 119 (.iconst 1) 1 := gx_dk (by decide +kernel)
theorem dX6_readOperand_120 : gx_d mX6_readOperand 120 (.iadd) 1 := gx_dk (by decide +kernel)
theorem dX6_readOperand_121 : gx_d mX6_readOperand 121 (.invokevirtual 71) 3 := gx_dk (by decide +kernel)
theorem dX6_readOperand_124 : gx_d mX6_readOperand 124 (.ireturn) 1 := gx_dk (by decide +kernel)
theorem dX6_readBracket_0 : gx_d mX6_readBracket 0 (.aload_n 0) 1 := gx_dk (by decide +kernel)
theorem dX6_readBracket_1 : gx_d mX6_readBracket 1 (.aload_n 1) 1 := gx_dk (by decide +kernel)
theorem dX6_readBracket_2 : gx_d mX6_readBracket 2 (.iconst 0) 1 := gx_dk (by decide +kernel)
theorem dX6_readBracket_3 : gx_d mX6_readBracket 3 (.iload_n 2) 1 := gx_dk (by decide +kernel)
theorem dX6_readBracket_4 : gx_d mX6_readBracket 4 (.invokevirtual 40) 3 := gx_dk (by decide +kernel)
theorem dX6_readBracket_7 : gx_d mX6_readBracket 7 (.ifCond .eq 12) 3 := gx_dk (by decide +kernel)
theorem dX6_readBracket_10 : gx_d mX6_readBracket 10 (.aload_n 0) 1 := gx_dk (by decide +kernel)
theorem dX6_readBracket_11 : gx_d mX6_readBracket 11 (.invokevirtual 36) 3 := gx_dk (by decide +kernel)
theorem dX6_readBracket_14 : gx_d mX6_readBracket 14 (.bipush 41) 2 := gx_dk (by decide +kernel)
theorem dX6_readBracket_16 : gx_d mX6_readBracket 16 (.if_icmp .eq 5) 3 := gx_dk (by decide +kernel)
theorem dX6_readBracket_19 : gx_d mX6_readBracket 19 (.iconst 0) 1 := gx_dk (by decide +kernel)
theorem dX6_readBracket_20 : gx_d mX6_readBracket 20 (.ireturn) 1 := gx_dk (by decide +kernel)
theorem dX6_readBracket_21 : gx_d mX6_readBracket 21 (.aload_n 0) 1 := gx_dk (by decide +kernel)
theorem dX6_readBracket_22 : gx_d mX6_readBracket 22 (.dup) 1 := gx_dk (by decide +kernel)
theorem dX6_readBracket_23 : gx_d mX6_readBracket 23 (.getfield 26) 3 := gx_dk (by decide +kernel)
theorem dX6_readBracket_26 : gx_d mX6_readBracket 26 (.iconst 1) 1 := gx_dk (by decide +kernel)
theorem dX6_readBracket_27 : gx_d mX6_readBracket 27 (.iadd) 1 := gx_dk (by decide +kernel)
theorem dX6_readBracket_28 : gx_d mX6_readBracket 28 (.putfield 26) 3 := gx_dk (by decide +kernel)
theorem dX6_readBracket_31 : gx_d mX6_readBracket 31 (.iconst 1) 1 := gx_dk (by decide +kernel)
theorem dX6_readBracket_32 : gx_d mX6_readBracket 32 (.ireturn) 1 := gx_dk (by decide +kernel)
theorem dX6_readSigned_0 : gx_d mX6_readSigned 0 (.aload_n 0) 1 := gx_dk (by decide +kernel)
theorem dX6_readSigned_1 : gx_d mX6_readSigned 1 (.aload_n 1) 1 := gx_dk (by decide +kernel)
theorem dX6_readSigned_2 : gx_d mX6_readSigned 2 (.iload_n 3) 1 := gx_dk (by decide +kernel)
theorem dX6_readSigned_3 : gx_d mX6_readSigned 3 (.invokevirtual 48) 3 := gx_dk (by decide +kernel)
theorem dX6_readSigned_6 : gx_d mX6_readSigned 6 (.ifCond .ne 5) 3 := gx_dk (by decide +kernel)
theorem dX6_readSigned_9 : gx_d mX6_readSigned 9 (.iconst 0) 1 := gx_dk (by decide +kernel)
theorem dX6_readSigned_10 : gx_d mX6_readSigned 10 (.ireturn) 1 := gx_dk (by decide +kernel)
theorem dX6_readSigned_11 : gx_d mX6_readSigned 11 (.aload_n 1) 1 := gx_dk (by decide +kernel)
theorem dX6_readSigned_12 : gx_d mX6_readSigned 12 (.iload_n 2) 1 := gx_dk (by decide +kernel)
theorem dX6_readSigned_13 : gx_d mX6_readSigned 13 (.bipush 45) 2 := gx_dk (by decide +kernel)
theorem dX6_readSigned_15 : gx_d mX6_readSigned 15 (.if_icmp .ne 8) 3 := gx_dk (by decide +kernel)
theorem dX6_readSigned_18 : gx_d mX6_readSigned 18 (.bipush 126) 2 := gx_dk (by decide +kernel)
theorem dX6_readSigned_20 : gx_d mX6_readSigned 20 (.goto 4) 3 := gx_dk (by decide +kernel)
theorem dX6_readSigned_23 : gx_d mX6_readSigned 23 (.iload_n 2) 1 := gx_dk (by decide +kernel)
theorem dX6_readSigned_24 : gx_d mX6_readSigned 24 (.iconst 0) 1 := gx_dk (by decide +kernel)
theorem dX6_readSigned_25 : gx_d mX6_readSigned 25 (.invokevirtual 44) 3 := gx_dk (by decide +kernel)
theorem dX6_readSigned_28 : gx_d mX6_readSigned 28 (.iconst 1) 1 := gx_dk (by decide +kernel)
theorem dX6_readSigned_29 : gx_d mX6_readSigned 29 (.ireturn) 1 := gx_dk (by decide +kernel)
theorem dX6_readNumber_0 : gx_d mX6_readNumber 0 (.iconst 0) 1 := gx_dk (by decide +kernel)
theorem dX6_readNumber_1 : gx_d mX6_readNumber 1 (.istore_n 2) 1 := gx_dk (by decide +kernel)
theorem dX6_readNumber_2 : gx_d mX6_readNumber 2 (.iconst 0) 1 := gx_dk (by decide +kernel)
theorem dX6_readNumber_3 : gx_d mX6_readNumber 3 (.istore_n 3) 1 := gx_dk (by decide +kernel)
theorem dX6_readNumber_4 : gx_d mX6_readNumber 4 (.iload_n 3) 1 := gx_dk (by decide +kernel)
theorem dX6_readNumber_5 : gx_d mX6_readNumber 5 (.iconst 4) 1 := gx_dk (by decide +kernel)
theorem dX6_readNumber_6 : gx_d mX6_readNumber 6 (.if_icmp .ge 42) 3 := gx_dk (by decide +kernel)
theorem dX6_readNumber_9 : gx_d mX6_readNumber 9 (.aload_n 0) 1 := gx_dk (by decide +kernel)
theorem dX6_readNumber_10 : gx_d mX6_readNumber 10 (.invokevirtual 36) 3 := gx_dk (by decide +kernel)
theorem dX6_readNumber_13 : gx_d mX6_readNumber 13 (.invokestatic 56) 3 := gx_dk (by decide +kernel)
theorem dX6_readNumber_16 : gx_d mX6_readNumber 16 (.ifCond .eq 32) 3 := gx_dk (by decide +kernel)
theorem dX6_readNumber_19 : gx_d mX6_readNumber 19 (.bipush 10) 2 := gx_dk (by decide +kernel)
theorem dX6_readNumber_21 : gx_d mX6_readNumber 21 (.iload_n 2) 1 := gx_dk (by decide +kernel)
theorem dX6_readNumber_22 : gx_d mX6_readNumber 22 (.imul) 1 := gx_dk (by decide +kernel)
theorem dX6_readNumber_23 : gx_d mX6_readNumber 23 (.aload_n 0) 1 := gx_dk (by decide +kernel)
theorem dX6_readNumber_24 : gx_d mX6_readNumber 24 (.invokevirtual 36) 3 := gx_dk (by decide +kernel)
theorem dX6_readNumber_27 : gx_d mX6_readNumber 27 (.iadd) 1 := gx_dk (by decide +kernel)
theorem dX6_readNumber_28 : gx_d mX6_readNumber 28 (.bipush 48) 2 := gx_dk (by decide +kernel)
theorem dX6_readNumber_30 : gx_d mX6_readNumber 30 (.isub) 1 := gx_dk (by decide +kernel)
theorem dX6_readNumber_31 : gx_d mX6_readNumber 31 (.istore_n 2) 1 := gx_dk (by decide +kernel)
theorem dX6_readNumber_32 : gx_d mX6_readNumber 32 (.aload_n 0) 1 := gx_dk (by decide +kernel)
theorem dX6_readNumber_33 : gx_d mX6_readNumber 33 (.dup) 1 := gx_dk (by decide +kernel)
theorem dX6_readNumber_34 : gx_d mX6_readNumber 34 (.getfield 26) 3 := gx_dk (by decide +kernel)
theorem dX6_readNumber_37 : gx_d mX6_readNumber 37 (.iconst 1) 1 := gx_dk (by decide +kernel)
theorem dX6_readNumber_38 : gx_d mX6_readNumber 38 (.iadd) 1 := gx_dk (by decide +kernel)
theorem dX6_readNumber_39 : gx_d mX6_readNumber 39 (.putfield 26) 3 := gx_dk (by decide +kernel)
theorem dX6_readNumber_42 : gx_d mX6_readNumber 42 (.iinc 3 1) 3 := gx_dk (by decide +kernel)
theorem dX6_readNumber_45 : gx_d mX6_readNumber 45 (.goto (-41)) 3 := gx_dk (by decide +kernel)
theorem dX6_readNumber_48 : gx_d mX6_readNumber 48 (.aload_n 1) 1 := gx_dk (by decide +kernel)
theorem dX6_readNumber_49 : gx_d mX6_readNumber 49 (.bipush 48) 2 := gx_dk (by decide +kernel)
theorem dX6_readNumber_51 : gx_d mX6_readNumber 51 (.iload_n 2) 1 := gx_dk (by decide +kernel)
theorem dX6_readNumber_52 : gx_d mX6_readNumber 52 (.invokevirtual 44) 3 := gx_dk (by decide +kernel)
theorem dX6_readNumber_55 : gx_d mX6_readNumber 55 (.return_) 1 := gx_dk (by decide +kernel)
theorem dX6_isDigit_0 : gx_d mX6_isDigit 0 (.iload_n 0) 1 := gx_dk (by decide +kernel)
theorem dX6_isDigit_1 : gx_d mX6_isDigit 1 (.bipush 48) 2 := gx_dk (by decide +kernel)
theorem dX6_isDigit_3 : gx_d mX6_isDigit 3 (.if_icmp .lt 13) 3 := gx_dk (by decide +kernel)
theorem dX6_isDigit_6 : gx_d mX6_isDigit 6 (.iload_n 0) 1 := gx_dk (by decide +kernel)
theorem dX6_isDigit_7 : gx_d mX6_isDigit 7 (.bipush 57) 2 := gx_dk (by decide +kernel)
theorem dX6_isDigit_9 : gx_d mX6_isDigit 9 (.if_icmp .gt 7) 3 := gx_dk (by decide +kernel)
theorem dX6_isDigit_12 : gx_d mX6_isDigit 12 (.iconst 1) 1 := gx_dk (by decide +kernel)
theorem dX6_isDigit_13 : gx_d mX6_isDigit 13 (.goto 4) 3 := gx_dk (by decide +kernel)
theorem dX6_isDigit_16 : gx_d mX6_isDigit 16 (.iconst 0) 1 := gx_dk (by decide +kernel)
theorem dX6_isDigit_17 : gx_d mX6_isDigit 17 (.ireturn) 1 := gx_dk (by decide +kernel)
theorem dX6_nameOf_0 : gx_d mX6_nameOf 0 (.iload_n 0) 1 := gx_dk (by decide +kernel)
theorem dX6_nameOf_1 : gx_d mX6_nameOf 1 (.lookupswitch 71 #[(99, 67), (100, 63), (108, 59), (112, 65), (114, 69), (119, 61)]) 59 := gx_dk (by decide +kernel)
theorem dX6_nameOf_60 : gx_d mX6_nameOf 60 (.iconst 0) 1 := gx_dk (by decide +kernel)
theorem dX6_nameOf_61 : gx_d mX6_nameOf 61 (.ireturn) 1 := gx_dk (by decide +kernel)
theorem dX6_nameOf_62 : gx_d mX6_nameOf 62 (.iconst 1) 1 := gx_dk (by decide +kernel)
theorem dX6_nameOf_63 : gx_d mX6_nameOf 63 (.ireturn) 1 := gx_dk (by decide +kernel)
theorem dX6_nameOf_64 : gx_d mX6_nameOf 64 (.iconst 2) 1 := gx_dk (by decide +kernel)
theorem dX6_nameOf_65 : gx_d mX6_nameOf 65 (.ireturn) 1 := gx_dk (by decide +kernel)
theorem dX6_nameOf_66 : gx_d mX6_nameOf 66 (.iconst 3) 1 := gx_dk (by decide +kernel)
theorem dX6_nameOf_67 : gx_d mX6_nameOf 67 (.ireturn) 1 := gx_dk (by decide +kernel)
theorem dX6_nameOf_68 : gx_d mX6_nameOf 68 (.iconst 4) 1 := gx_dk (by decide +kernel)
theorem dX6_nameOf_69 : gx_d mX6_nameOf 69 (.ireturn) 1 := gx_dk (by decide +kernel)
theorem dX6_nameOf_70 : gx_d mX6_nameOf 70 (.iconst 5) 1 := gx_dk (by decide +kernel)
theorem dX6_nameOf_71 : gx_d mX6_nameOf 71 (.ireturn) 1 := gx_dk (by decide +kernel)
theorem dX6_nameOf_72 : gx_d mX6_nameOf 72 (.iconst (-1)) 1 := gx_dk (by decide +kernel)
theorem dX6_nameOf_73 : gx_d mX6_nameOf 73 (.ireturn) 1 := gx_dk (by decide +kernel)
def tpO (w : gx_W) : Prop := w.1[7]? = some (6, 0) ∧ w_r w 7 0 = some 8 ∧ w.1[8]? = some (20, 120)
theorem tpO.same {R : List Nat} {F : List (Nat × Nat)} {w w' : gx_W} (h : tpO w) (hs : same R F w w') : tpO w' := by
  unfold tpO at h ⊢
  rw [hs.1, hs.2.2.1]
  exact h
/-- T letters g on the tape -/
def tpK (w : gx_W) (T : Nat) (g : Nat → Int32) : Prop := tpO w ∧ w_i w 7 1 = nI T ∧ T ≤ 120 ∧ w_a w 8 = g
def tp_h (g : Nat → Int32) (T p : Nat) : Int32 := if p < T then g p else -1
def tp_dg (s : Int32) : Bool := decide (48 ≤ s) && decide (s ≤ 57)
def tp_nm (s : Int32) : Int32 := if s = 99 then 4 else if s = 100 then 2 else if s = 108 then 0 else if s = 112 then 3 else if s = 114 then 5 else if s = 119 then 1 else -1
def tp_jn : Nat → Int32 → Bool
  | 0, s => decide (s = 124)
  | 1, s => decide (s = 38)
  | 2, s => decide (s = 60) || (decide (s = 61) || decide (s = 62))
  | 3, s => decide (s = 43) || decide (s = 45)
  | 4, s => decide (s = 42) || (decide (s = 47) || decide (s = 37))
  | _, _ => false
theorem c_X6_isFull {d : Nat} {w : gx_W} {T : Nat} {g : Nat → Int32} {k : Int32 → gx_W → Prop} (hd : 0 ≤ d) (h : tpK w T g) (kt : T = 120 → k 1 w) (kf : T < 120 → k 0 w) : gx_C 0 0 d mX6_isFull [.ref 7] w (Qi k) := by
  refine gx_C_of' (L := [.ref 7]) (by decide +kernel) rfl (Nat.le_of_ble_eq_true rfl) ?_
  refine g_aload_n dX6_isFull_0 rfl ?_
  refine g_geti dX6_isFull_1 fl_X6_13 h.1.1 ?_
  refine g_bipush (v := 120) dX6_isFull_4 rfl ?_
  refine g_icmp_lt (tgt := 13) dX6_isFull_6 (by decide) (fun zc6 => ?_) (fun zc6 => ?_)
  · refine g_iconst (v := 0) dX6_isFull_13 rfl ?_
    refine g_zret dX6_isFull_14 rfl (Or.inl rfl) ⟨_, rfl, ?_⟩
    have hb := h.2.2.1
    have c := zc6
    rw [h.2.1, pI_lt, nI_toInt (by omega)] at c
    have e : (120 : Int32).toInt = 120 := by decide
    exact kf (by omega)
  · refine g_iconst (v := 1) dX6_isFull_9 rfl ?_
    refine g_goto (tgt := 14) dX6_isFull_10 (by decide) ?_
    refine g_zret dX6_isFull_14 rfl (Or.inr rfl) ⟨_, rfl, ?_⟩
    have hb := h.2.2.1
    have c := zc6
    rw [h.2.1] at c
    refine kt ?_
    rcases Nat.lt_or_ge T 120 with q | q
    · exact absurd (nI_lt q (b := 120) (by decide)) c
    · omega
theorem c_X6_add {d : Nat} {w : gx_W} {T : Nat} {g : Nat → Int32} {x : Int32} {k : Int32 → gx_W → Prop} (hd : 1 ≤ d) (h : tpK w T g) (k1 : T < 120 → k (nI (T + 1)) (s_i (s_a w 8 (va_up g T x)) 7 1 (nI (T + 1)))) (k2 : T = 120 → k (nI T) w) : gx_C 0 0 d mX6_add [.ref 7, .int x] w (Qi k) := by
  refine gx_C_of' (L := [.ref 7, .int x]) (by decide +kernel) rfl (Nat.le_of_ble_eq_true rfl) ?_
  refine g_aload_n dX6_add_0 rfl ?_
  refine g_cV0i dX6_add_1 ml_X6_17 mi_X6_isFull mv_X6_isFull h.1.1 ⟨_, rfl, rfl⟩ (Nat.le_of_ble_eq_true rfl) rfl (by omega) ?_
  refine c_X6_isFull (by omega) h (fun e => ?_) (fun e => ?_)
  · refine g_if_ne (tgt := 27) dX6_add_4 (by decide) (fun _ => ?_) (fun q => absurd q (by decide))
    refine g_aload_n dX6_add_27 rfl ?_
    refine g_geti dX6_add_28 fl_X6_13 h.1.1 ?_
    refine g_iret dX6_add_31 rfl ⟨_, rfl, ?_⟩
    rw [h.2.1]
    exact k2 e
  · refine g_if_ne (tgt := 27) dX6_add_4 (by decide) (fun q => absurd q (by decide)) (fun _ => ?_)
    refine g_aload_n dX6_add_7 rfl ?_
    refine g_getr dX6_add_8 fl_X6_9 h.1.1 h.1.2.1 ?_
    refine g_aload_n dX6_add_11 rfl ?_
    refine g_geti dX6_add_12 fl_X6_13 h.1.1 ?_
    rw [h.2.1]
    refine g_iload_n dX6_add_15 rfl ?_
    refine g_iast dX6_add_16 h.1.2.2 (vp_in_nI e (by decide)) ?_
    refine g_aload_n dX6_add_17 rfl ?_
    refine g_dup dX6_add_18 rfl ?_
    refine g_geti dX6_add_19 fl_X6_13 h.1.1 ?_
    refine g_iconst (v := 1) dX6_add_22 rfl ?_
    refine g_iadd dX6_add_23 ?_
    refine g_puti dX6_add_24 fl_X6_13 ft_6_1 h.1.1 ?_
    refine g_aload_n dX6_add_27 rfl ?_
    refine g_geti dX6_add_28 fl_X6_13 h.1.1 ?_
    refine g_iret dX6_add_31 rfl ⟨_, rfl, ?_⟩
    have e1 : w_i (s_a w 8 (va_up (w_a w 8) (nI T).toNatClampNeg x)) 7 1 = nI T := h.2.1
    rw [e1, nI_n (by omega), h.2.2.2]
    have e2 : (nI T : Int32) + 1 = nI (T + 1) := (nI_succ T).symm
    rw [e2, wi_si, if_pos ⟨rfl, rfl⟩]
    exact k1 e
theorem c_X6_here {d : Nat} {w : gx_W} {T : Nat} {g : Nat → Int32} {p : Nat} {k : Int32 → gx_W → Prop} (hd : 0 ≤ d) (h : tpK w T g) (hp : w_i w 7 2 = nI p) (hpT : p ≤ T) (kk : k (tp_h g T p) w) : gx_C 0 0 d mX6_here [.ref 7] w (Qi k) := by
  refine gx_C_of' (L := [.ref 7]) (by decide +kernel) rfl (Nat.le_of_ble_eq_true rfl) ?_
  have hb := h.2.2.1
  refine g_aload_n dX6_here_0 rfl ?_
  refine g_geti dX6_here_1 fl_X6_26 h.1.1 ?_
  refine g_if_lt (tgt := 30) dX6_here_4 (by decide) (fun zc4 => ?_) (fun zc4 => ?_)
  · refine g_iconst (v := -1) dX6_here_30 rfl ?_
    refine g_iret dX6_here_31 rfl ⟨_, rfl, ?_⟩
    rw [hp] at zc4
    exact absurd zc4 (nI_pos (by omega))
  · refine g_aload_n dX6_here_7 rfl ?_
    refine g_geti dX6_here_8 fl_X6_26 h.1.1 ?_
    refine g_aload_n dX6_here_11 rfl ?_
    refine g_geti dX6_here_12 fl_X6_13 h.1.1 ?_
    refine g_icmp_ge (tgt := 30) dX6_here_15 (by decide) (fun zc15 => ?_) (fun zc15 => ?_)
    · refine g_iconst (v := -1) dX6_here_30 rfl ?_
      refine g_iret dX6_here_31 rfl ⟨_, rfl, ?_⟩
      have e : ¬ p < T := by
        intro q
        have c := zc15
        rw [hp, h.2.1] at c
        exact absurd c (nI_ge q (by omega))
      unfold tp_h at kk
      rw [if_neg e] at kk
      exact kk
    · have hlt : p < T := by
        rcases Nat.lt_or_ge p T with q | q
        · exact q
        · refine absurd ?_ zc15
          rw [hp, h.2.1, show p = T by omega]
          exact Int32.le_refl _
      refine g_aload_n dX6_here_18 rfl ?_
      refine g_getr dX6_here_19 fl_X6_9 h.1.1 h.1.2.1 ?_
      refine g_aload_n dX6_here_22 rfl ?_
      refine g_geti dX6_here_23 fl_X6_26 h.1.1 ?_
      rw [hp]
      refine g_iald dX6_here_26 h.1.2.2 (vp_in_nI (by omega) (by decide)) ?_
      refine g_goto (tgt := 31) dX6_here_27 (by decide) ?_
      refine g_iret dX6_here_31 rfl ⟨_, rfl, ?_⟩
      unfold tp_h at kk
      rw [if_pos hlt] at kk
      rw [h.2.2.2, nI_n (by omega)]
      exact kk
theorem c_X6_isDigit {d : Nat} {w : gx_W} {s : Int32} {k : Int32 → gx_W → Prop} (hd : 0 ≤ d) (kt : tp_dg s = true → k 1 w) (kf : tp_dg s = false → k 0 w) : gx_C 0 0 d mX6_isDigit [.int s] w (Qi k) := by
  refine gx_C_of' (L := [.int s]) (by decide +kernel) rfl (Nat.le_of_ble_eq_true rfl) ?_
  refine g_iload_n dX6_isDigit_0 rfl ?_
  refine g_bipush (v := 48) dX6_isDigit_1 rfl ?_
  refine g_icmp_lt (tgt := 16) dX6_isDigit_3 (by decide) (fun zc3 => ?_) (fun zc3 => ?_)
  · refine g_iconst (v := 0) dX6_isDigit_16 rfl ?_
    refine g_zret dX6_isDigit_17 rfl (Or.inl rfl) ⟨_, rfl, ?_⟩
    exact kf (by simp only [tp_dg, Bool.and_eq_false_iff, decide_eq_false_iff_not]; exact Or.inl (Int32.not_le.mpr zc3))
  · refine g_iload_n dX6_isDigit_6 rfl ?_
    refine g_bipush (v := 57) dX6_isDigit_7 rfl ?_
    refine g_icmp_gt (tgt := 16) dX6_isDigit_9 (by decide) (fun zc9 => ?_) (fun zc9 => ?_)
    · refine g_iconst (v := 0) dX6_isDigit_16 rfl ?_
      refine g_zret dX6_isDigit_17 rfl (Or.inl rfl) ⟨_, rfl, ?_⟩
      exact kf (by simp only [tp_dg, Bool.and_eq_false_iff, decide_eq_false_iff_not]; exact Or.inr (Int32.not_le.mpr zc9))
    · refine g_iconst (v := 1) dX6_isDigit_12 rfl ?_
      refine g_goto (tgt := 17) dX6_isDigit_13 (by decide) ?_
      refine g_zret dX6_isDigit_17 rfl (Or.inr rfl) ⟨_, rfl, ?_⟩
      exact kt (by simp only [tp_dg, Bool.and_eq_true, decide_eq_true_eq]; exact ⟨Int32.not_lt.mp zc3, Int32.not_lt.mp zc9⟩)
theorem c_X6_nameOf {d : Nat} {w : gx_W} {s : Int32} {k : Int32 → gx_W → Prop} (hd : 0 ≤ d) (kk : k (tp_nm s) w) : gx_C 0 0 d mX6_nameOf [.int s] w (Qi k) := by
  refine gx_C_of' (L := [.int s]) (by decide +kernel) rfl (Nat.le_of_ble_eq_true rfl) ?_
  refine g_iload_n dX6_nameOf_0 rfl ?_
  by_cases s1_0 : s = 99
  · refine g_lookup (off := 67) (tgt := 68) dX6_nameOf_1 (by decide) (by rw [s1_0]; rfl) (by decide) ?_
    refine g_iconst (v := 4) dX6_nameOf_68 rfl ?_
    refine g_iret dX6_nameOf_69 rfl ⟨_, rfl, ?_⟩
    unfold tp_nm at kk
    rw [if_pos s1_0] at kk
    exact kk
  by_cases s1_1 : s = 100
  · refine g_lookup (off := 63) (tgt := 64) dX6_nameOf_1 (by decide) (by rw [s1_1]; rfl) (by decide) ?_
    refine g_iconst (v := 2) dX6_nameOf_64 rfl ?_
    refine g_iret dX6_nameOf_65 rfl ⟨_, rfl, ?_⟩
    unfold tp_nm at kk
    rw [if_neg s1_0, if_pos s1_1] at kk
    exact kk
  by_cases s1_2 : s = 108
  · refine g_lookup (off := 59) (tgt := 60) dX6_nameOf_1 (by decide) (by rw [s1_2]; rfl) (by decide) ?_
    refine g_iconst (v := 0) dX6_nameOf_60 rfl ?_
    refine g_iret dX6_nameOf_61 rfl ⟨_, rfl, ?_⟩
    unfold tp_nm at kk
    rw [if_neg s1_0, if_neg s1_1, if_pos s1_2] at kk
    exact kk
  by_cases s1_3 : s = 112
  · refine g_lookup (off := 65) (tgt := 66) dX6_nameOf_1 (by decide) (by rw [s1_3]; rfl) (by decide) ?_
    refine g_iconst (v := 3) dX6_nameOf_66 rfl ?_
    refine g_iret dX6_nameOf_67 rfl ⟨_, rfl, ?_⟩
    unfold tp_nm at kk
    rw [if_neg s1_0, if_neg s1_1, if_neg s1_2, if_pos s1_3] at kk
    exact kk
  by_cases s1_4 : s = 114
  · refine g_lookup (off := 69) (tgt := 70) dX6_nameOf_1 (by decide) (by rw [s1_4]; rfl) (by decide) ?_
    refine g_iconst (v := 5) dX6_nameOf_70 rfl ?_
    refine g_iret dX6_nameOf_71 rfl ⟨_, rfl, ?_⟩
    unfold tp_nm at kk
    rw [if_neg s1_0, if_neg s1_1, if_neg s1_2, if_neg s1_3, if_pos s1_4] at kk
    exact kk
  by_cases s1_5 : s = 119
  · refine g_lookup (off := 61) (tgt := 62) dX6_nameOf_1 (by decide) (by rw [s1_5]; rfl) (by decide) ?_
    refine g_iconst (v := 1) dX6_nameOf_62 rfl ?_
    refine g_iret dX6_nameOf_63 rfl ⟨_, rfl, ?_⟩
    unfold tp_nm at kk
    rw [if_neg s1_0, if_neg s1_1, if_neg s1_2, if_neg s1_3, if_neg s1_4, if_pos s1_5] at kk
    exact kk
  refine g_lookup (off := 71) (tgt := 72) dX6_nameOf_1 (by decide) (by
      show Op.lookupswitch.offset [(99, 67), (100, 63), (108, 59), (112, 65), (114, 69), (119, 61)] (71) _ = _
      rw [lv_osw s1_0 (by decide), lv_osw s1_1 (by decide), lv_osw s1_2 (by decide), lv_osw s1_3 (by decide), lv_osw s1_4 (by decide), lv_osw s1_5 (by decide)]
      rfl) (by decide) ?_
  refine g_iconst (v := -1) dX6_nameOf_72 rfl ?_
  refine g_iret dX6_nameOf_73 rfl ⟨_, rfl, ?_⟩
  unfold tp_nm at kk
  rw [if_neg s1_0, if_neg s1_1, if_neg s1_2, if_neg s1_3, if_neg s1_4, if_neg s1_5] at kk
  exact kk
set_option maxHeartbeats 1000000 in
theorem c_X6_joins {d : Nat} {w : gx_W} {lv : Nat} {s : Int32} {k : Int32 → gx_W → Prop} (hd : 0 ≤ d) (hl : lv < 5) (kt : tp_jn lv s = true → k 1 w) (kf : tp_jn lv s = false → k 0 w) : gx_C 0 0 d mX6_joins [.int (nI lv), .int s] w (Qi k) := by
  refine gx_C_of' (L := [.int (nI lv), .int s]) (by decide +kernel) rfl (Nat.le_of_ble_eq_true rfl) ?_
  refine g_iload_n dX6_joins_0 rfl ?_
  by_cases s1_0 : nI lv = 0
  · refine g_tableIn (off := 35) (tgt := 36) dX6_joins_1 (by rw [s1_0]; decide) (by rw [s1_0]; decide) (by rw [s1_0]; rfl) (by decide) ?_
    refine g_iload_n dX6_joins_36 rfl ?_
    refine g_bipush (v := 124) dX6_joins_37 rfl ?_
    refine g_icmp_ne (tgt := 46) dX6_joins_39 (by decide) (fun zc39 => ?_) (fun zc39 => ?_)
    · refine g_iconst (v := 0) dX6_joins_46 rfl ?_
      refine g_zret dX6_joins_47 rfl (Or.inl rfl) ⟨_, rfl, ?_⟩
      have e : lv = 0 := pI_inj (a := lv) (b := 0) (by omega) (by decide) s1_0
      subst e
      exact kf (by simp_all [tp_jn])
    · refine g_iconst (v := 1) dX6_joins_42 rfl ?_
      refine g_goto (tgt := 47) dX6_joins_43 (by decide) ?_
      refine g_zret dX6_joins_47 rfl (Or.inr rfl) ⟨_, rfl, ?_⟩
      have e : lv = 0 := pI_inj (a := lv) (b := 0) (by omega) (by decide) s1_0
      subst e
      exact kt (by simp_all [tp_jn])
  by_cases s1_1 : nI lv = 1
  · refine g_tableIn (off := 47) (tgt := 48) dX6_joins_1 (by rw [s1_1]; decide) (by rw [s1_1]; decide) (by rw [s1_1]; rfl) (by decide) ?_
    refine g_iload_n dX6_joins_48 rfl ?_
    refine g_bipush (v := 38) dX6_joins_49 rfl ?_
    refine g_icmp_ne (tgt := 58) dX6_joins_51 (by decide) (fun zc51 => ?_) (fun zc51 => ?_)
    · refine g_iconst (v := 0) dX6_joins_58 rfl ?_
      refine g_zret dX6_joins_59 rfl (Or.inl rfl) ⟨_, rfl, ?_⟩
      have e : lv = 1 := pI_inj (a := lv) (b := 1) (by omega) (by decide) s1_1
      subst e
      exact kf (by simp_all [tp_jn])
    · refine g_iconst (v := 1) dX6_joins_54 rfl ?_
      refine g_goto (tgt := 59) dX6_joins_55 (by decide) ?_
      refine g_zret dX6_joins_59 rfl (Or.inr rfl) ⟨_, rfl, ?_⟩
      have e : lv = 1 := pI_inj (a := lv) (b := 1) (by omega) (by decide) s1_1
      subst e
      exact kt (by simp_all [tp_jn])
  by_cases s1_2 : nI lv = 2
  · refine g_tableIn (off := 59) (tgt := 60) dX6_joins_1 (by rw [s1_2]; decide) (by rw [s1_2]; decide) (by rw [s1_2]; rfl) (by decide) ?_
    refine g_iload_n dX6_joins_60 rfl ?_
    refine g_bipush (v := 60) dX6_joins_61 rfl ?_
    refine g_icmp_eq (tgt := 78) dX6_joins_63 (by decide) (fun zc63 => ?_) (fun zc63 => ?_)
    · refine g_iconst (v := 1) dX6_joins_78 rfl ?_
      refine g_goto (tgt := 83) dX6_joins_79 (by decide) ?_
      refine g_zret dX6_joins_83 rfl (Or.inr rfl) ⟨_, rfl, ?_⟩
      have e : lv = 2 := pI_inj (a := lv) (b := 2) (by omega) (by decide) s1_2
      subst e
      exact kt (by simp_all [tp_jn])
    · refine g_iload_n dX6_joins_66 rfl ?_
      refine g_bipush (v := 61) dX6_joins_67 rfl ?_
      refine g_icmp_eq (tgt := 78) dX6_joins_69 (by decide) (fun zc69 => ?_) (fun zc69 => ?_)
      · refine g_iconst (v := 1) dX6_joins_78 rfl ?_
        refine g_goto (tgt := 83) dX6_joins_79 (by decide) ?_
        refine g_zret dX6_joins_83 rfl (Or.inr rfl) ⟨_, rfl, ?_⟩
        have e : lv = 2 := pI_inj (a := lv) (b := 2) (by omega) (by decide) s1_2
        subst e
        exact kt (by simp_all [tp_jn])
      · refine g_iload_n dX6_joins_72 rfl ?_
        refine g_bipush (v := 62) dX6_joins_73 rfl ?_
        refine g_icmp_ne (tgt := 82) dX6_joins_75 (by decide) (fun zc75 => ?_) (fun zc75 => ?_)
        · refine g_iconst (v := 0) dX6_joins_82 rfl ?_
          refine g_zret dX6_joins_83 rfl (Or.inl rfl) ⟨_, rfl, ?_⟩
          have e : lv = 2 := pI_inj (a := lv) (b := 2) (by omega) (by decide) s1_2
          subst e
          exact kf (by simp_all [tp_jn])
        · refine g_iconst (v := 1) dX6_joins_78 rfl ?_
          refine g_goto (tgt := 83) dX6_joins_79 (by decide) ?_
          refine g_zret dX6_joins_83 rfl (Or.inr rfl) ⟨_, rfl, ?_⟩
          have e : lv = 2 := pI_inj (a := lv) (b := 2) (by omega) (by decide) s1_2
          subst e
          exact kt (by simp_all [tp_jn])
  by_cases s1_3 : nI lv = 3
  · refine g_tableIn (off := 83) (tgt := 84) dX6_joins_1 (by rw [s1_3]; decide) (by rw [s1_3]; decide) (by rw [s1_3]; rfl) (by decide) ?_
    refine g_iload_n dX6_joins_84 rfl ?_
    refine g_bipush (v := 43) dX6_joins_85 rfl ?_
    refine g_icmp_eq (tgt := 96) dX6_joins_87 (by decide) (fun zc87 => ?_) (fun zc87 => ?_)
    · refine g_iconst (v := 1) dX6_joins_96 rfl ?_
      refine g_goto (tgt := 101) dX6_joins_97 (by decide) ?_
      refine g_zret dX6_joins_101 rfl (Or.inr rfl) ⟨_, rfl, ?_⟩
      have e : lv = 3 := pI_inj (a := lv) (b := 3) (by omega) (by decide) s1_3
      subst e
      exact kt (by simp_all [tp_jn])
    · refine g_iload_n dX6_joins_90 rfl ?_
      refine g_bipush (v := 45) dX6_joins_91 rfl ?_
      refine g_icmp_ne (tgt := 100) dX6_joins_93 (by decide) (fun zc93 => ?_) (fun zc93 => ?_)
      · refine g_iconst (v := 0) dX6_joins_100 rfl ?_
        refine g_zret dX6_joins_101 rfl (Or.inl rfl) ⟨_, rfl, ?_⟩
        have e : lv = 3 := pI_inj (a := lv) (b := 3) (by omega) (by decide) s1_3
        subst e
        exact kf (by simp_all [tp_jn])
      · refine g_iconst (v := 1) dX6_joins_96 rfl ?_
        refine g_goto (tgt := 101) dX6_joins_97 (by decide) ?_
        refine g_zret dX6_joins_101 rfl (Or.inr rfl) ⟨_, rfl, ?_⟩
        have e : lv = 3 := pI_inj (a := lv) (b := 3) (by omega) (by decide) s1_3
        subst e
        exact kt (by simp_all [tp_jn])
  by_cases s1_4 : nI lv = 4
  · refine g_tableIn (off := 101) (tgt := 102) dX6_joins_1 (by rw [s1_4]; decide) (by rw [s1_4]; decide) (by rw [s1_4]; rfl) (by decide) ?_
    refine g_iload_n dX6_joins_102 rfl ?_
    refine g_bipush (v := 42) dX6_joins_103 rfl ?_
    refine g_icmp_eq (tgt := 120) dX6_joins_105 (by decide) (fun zc105 => ?_) (fun zc105 => ?_)
    · refine g_iconst (v := 1) dX6_joins_120 rfl ?_
      refine g_goto (tgt := 125) dX6_joins_121 (by decide) ?_
      refine g_zret dX6_joins_125 rfl (Or.inr rfl) ⟨_, rfl, ?_⟩
      have e : lv = 4 := pI_inj (a := lv) (b := 4) (by omega) (by decide) s1_4
      subst e
      exact kt (by simp_all [tp_jn])
    · refine g_iload_n dX6_joins_108 rfl ?_
      refine g_bipush (v := 47) dX6_joins_109 rfl ?_
      refine g_icmp_eq (tgt := 120) dX6_joins_111 (by decide) (fun zc111 => ?_) (fun zc111 => ?_)
      · refine g_iconst (v := 1) dX6_joins_120 rfl ?_
        refine g_goto (tgt := 125) dX6_joins_121 (by decide) ?_
        refine g_zret dX6_joins_125 rfl (Or.inr rfl) ⟨_, rfl, ?_⟩
        have e : lv = 4 := pI_inj (a := lv) (b := 4) (by omega) (by decide) s1_4
        subst e
        exact kt (by simp_all [tp_jn])
      · refine g_iload_n dX6_joins_114 rfl ?_
        refine g_bipush (v := 37) dX6_joins_115 rfl ?_
        refine g_icmp_ne (tgt := 124) dX6_joins_117 (by decide) (fun zc117 => ?_) (fun zc117 => ?_)
        · refine g_iconst (v := 0) dX6_joins_124 rfl ?_
          refine g_zret dX6_joins_125 rfl (Or.inl rfl) ⟨_, rfl, ?_⟩
          have e : lv = 4 := pI_inj (a := lv) (b := 4) (by omega) (by decide) s1_4
          subst e
          exact kf (by simp_all [tp_jn])
        · refine g_iconst (v := 1) dX6_joins_120 rfl ?_
          refine g_goto (tgt := 125) dX6_joins_121 (by decide) ?_
          refine g_zret dX6_joins_125 rfl (Or.inr rfl) ⟨_, rfl, ?_⟩
          have e : lv = 4 := pI_inj (a := lv) (b := 4) (by omega) (by decide) s1_4
          subst e
          exact kt (by simp_all [tp_jn])
  refine g_tableOut (tgt := 126) dX6_joins_1 (by have z0 := lv_neT s1_0 (a := 0) (by decide); have z1 := lv_neT s1_1 (a := 1) (by decide); have z2 := lv_neT s1_2 (a := 2) (by decide); have z3 := lv_neT s1_3 (a := 3) (by decide); have z4 := lv_neT s1_4 (a := 4) (by decide); omega) (by decide) ?_
  refine g_iconst (v := 0) dX6_joins_126 rfl ?_
  refine g_zret dX6_joins_127 rfl (Or.inl rfl) ⟨_, rfl, ?_⟩
  exfalso
  have e : lv = 0 ∨ lv = 1 ∨ lv = 2 ∨ lv = 3 ∨ lv = 4 := by omega
  rcases e with rfl | rfl | rfl | rfl | rfl
  · exact s1_0 rfl
  · exact s1_1 rfl
  · exact s1_2 rfl
  · exact s1_3 rfl
  · exact s1_4 rfl
