/-! Crossing -/
theorem dX2_init_0 : gx_d mX2_init 0 (.aload_n 0) 1 := gx_dk (by decide +kernel)
theorem dX2_init_1 : gx_d mX2_init 1 (.invokespecial 5) 3 := gx_dk (by decide +kernel)
theorem dX2_init_4 : gx_d mX2_init 4 (.aload_n 0) 1 := gx_dk (by decide +kernel)
theorem dX2_init_5 : gx_d mX2_init 5 (.bipush 28) 2 := gx_dk (by decide +kernel)
theorem dX2_init_7 : gx_d mX2_init 7 (.newarray .int) 2 := gx_dk (by decide +kernel)
theorem dX2_init_9 : gx_d mX2_init 9 (.putfield 11) 3 := gx_dk (by decide +kernel)
theorem dX2_init_12 : gx_d mX2_init 12 (.aload_n 0) 1 := gx_dk (by decide +kernel)
theorem dX2_init_13 : gx_d mX2_init 13 (.aload_n 1) 1 := gx_dk (by decide +kernel)
theorem dX2_init_14 : gx_d mX2_init 14 (.putfield 15) 3 := gx_dk (by decide +kernel)
theorem dX2_init_17 : gx_d mX2_init 17 (.aload_n 0) 1 := gx_dk (by decide +kernel)
theorem dX2_init_18 : gx_d mX2_init 18 (.getfield 11) 3 := gx_dk (by decide +kernel)
theorem dX2_init_21 : gx_d mX2_init 21 (.bipush 24) 2 := gx_dk (by decide +kernel)
theorem dX2_init_23 : gx_d mX2_init 23 (.bipush 8) 2 := gx_dk (by decide +kernel)
theorem dX2_init_25 : gx_d mX2_init 25 (.iastore) 1 := gx_dk (by decide +kernel)
theorem dX2_init_26 : gx_d mX2_init 26 (.aload_n 0) 1 := gx_dk (by decide +kernel)
theorem dX2_init_27 : gx_d mX2_init 27 (.getfield 11) 3 := gx_dk (by decide +kernel)
theorem dX2_init_30 : gx_d mX2_init 30 (.bipush 26) 2 := gx_dk (by decide +kernel)
theorem dX2_init_32 : gx_d mX2_init 32 (.iconst 2) 1 := gx_dk (by decide +kernel)
theorem dX2_init_33 : gx_d mX2_init 33 (.iastore) 1 := gx_dk (by decide +kernel)
theorem dX2_init_34 : gx_d mX2_init 34 (.aload_n 0) 1 := gx_dk (by decide +kernel)
theorem dX2_init_35 : gx_d mX2_init 35 (.getfield 11) 3 := gx_dk (by decide +kernel)
theorem dX2_init_38 : gx_d mX2_init 38 (.bipush 27) 2 := gx_dk (by decide +kernel)
theorem dX2_init_40 : gx_d mX2_init 40 (.iconst 4) 1 := gx_dk (by decide +kernel)
theorem dX2_init_41 : gx_d mX2_init 41 (.iastore) 1 := gx_dk (by decide +kernel)
theorem dX2_init_42 : gx_d mX2_init 42 (.return_) 1 := gx_dk (by decide +kernel)
theorem dX2_isRoad_0 : gx_d mX2_isRoad 0 (.iload_n 1) 1 := gx_dk (by decide +kernel)
theorem dX2_isRoad_1 : gx_d mX2_isRoad 1 (.ifCond .lt 15) 3 := gx_dk (by decide +kernel)
theorem dX2_isRoad_4 : gx_d mX2_isRoad 4 (.iload_n 1) 1 := gx_dk (by decide +kernel)
theorem dX2_isRoad_5 : gx_d mX2_isRoad 5 (.aload_n 0) 1 := gx_dk (by decide +kernel)
theorem dX2_isRoad_6 : gx_d mX2_isRoad 6 (.getfield 19) 3 := gx_dk (by decide +kernel)
theorem dX2_isRoad_9 : gx_d mX2_isRoad 9 (.if_icmp .ge 7) 3 := gx_dk (by decide +kernel)
theorem dX2_isRoad_12 : gx_d mX2_isRoad 12 (.iconst 1) 1 := gx_dk (by decide +kernel)
theorem dX2_isRoad_13 : gx_d mX2_isRoad 13 (.goto 4) 3 := gx_dk (by decide +kernel)
theorem dX2_isRoad_16 : gx_d mX2_isRoad 16 (.iconst 0) 1 := gx_dk (by decide +kernel)
theorem dX2_isRoad_17 : gx_d mX2_isRoad 17 (.ireturn) 1 := gx_dk (by decide +kernel)
theorem dX2_isFull_0 : gx_d mX2_isFull 0 (.aload_n 0) 1 := gx_dk (by decide +kernel)
theorem dX2_isFull_1 : gx_d mX2_isFull 1 (.getfield 19) 3 := gx_dk (by decide +kernel)
theorem dX2_isFull_4 : gx_d mX2_isFull 4 (.bipush 6) 2 := gx_dk (by decide +kernel)
theorem dX2_isFull_6 : gx_d mX2_isFull 6 (.if_icmp .lt 7) 3 := gx_dk (by decide +kernel)
theorem dX2_isFull_9 : gx_d mX2_isFull 9 (.iconst 1) 1 := gx_dk (by decide +kernel)
theorem dX2_isFull_10 : gx_d mX2_isFull 10 (.goto 4) 3 := gx_dk (by decide +kernel)
theorem dX2_isFull_13 : gx_d mX2_isFull 13 (.iconst 0) 1 := gx_dk (by decide +kernel)
theorem dX2_isFull_14 : gx_d mX2_isFull 14 (.ireturn) 1 := gx_dk (by decide +kernel)
theorem dX2_allRoads_0 : gx_d mX2_allRoads 0 (.iconst 1) 1 := gx_dk (by decide +kernel)
theorem dX2_allRoads_1 : gx_d mX2_allRoads 1 (.aload_n 0) 1 := gx_dk (by decide +kernel)
theorem dX2_allRoads_2 : gx_d mX2_allRoads 2 (.getfield 19) 3 := gx_dk (by decide +kernel)
theorem dX2_allRoads_5 : gx_d mX2_allRoads 5 (.ishl) 1 := gx_dk (by decide +kernel)
theorem dX2_allRoads_6 : gx_d mX2_allRoads 6 (.iconst 1) 1 := gx_dk (by decide +kernel)
theorem dX2_allRoads_7 : gx_d mX2_allRoads 7 (.isub) 1 := gx_dk (by decide +kernel)
theorem dX2_allRoads_8 : gx_d mX2_allRoads 8 (.ireturn) 1 := gx_dk (by decide +kernel)
theorem dX2_add_0 : gx_d mX2_add 0 (.aload_n 0) 1 := gx_dk (by decide +kernel)
theorem dX2_add_1 : gx_d mX2_add 1 (.invokevirtual 23) 3 := gx_dk (by decide +kernel)
theorem dX2_add_4 : gx_d mX2_add 4 (.ifCond .eq 6) 3 := gx_dk (by decide +kernel)
theorem dX2_add_7 : gx_d mX2_add 7 (.bipush (-3)) 2 := gx_dk (by decide +kernel)
theorem dX2_add_9 : gx_d mX2_add 9 (.ireturn) 1 := gx_dk (by decide +kernel)
theorem dX2_add_10 : gx_d mX2_add 10 (.aload_n 0) 1 := gx_dk (by decide +kernel)
theorem dX2_add_11 : gx_d mX2_add 11 (.getfield 19) 3 := gx_dk (by decide +kernel)
theorem dX2_add_14 : gx_d mX2_add 14 (.istore 4) 2 := gx_dk (by decide +kernel)
theorem dX2_add_16 : gx_d mX2_add 16 (.aload_n 0) 1 := gx_dk (by decide +kernel)
theorem dX2_add_17 : gx_d mX2_add 17 (.dup) 1 := gx_dk (by decide +kernel)
theorem dX2_add_18 : gx_d mX2_add 18 (.getfield 19) 3 := gx_dk (by decide +kernel)
theorem dX2_add_21 : gx_d mX2_add 21 (.iconst 1) 1 := gx_dk (by decide +kernel)
theorem dX2_add_22 : gx_d mX2_add 22 (.iadd) 1 := gx_dk (by decide +kernel)
theorem dX2_add_23 : gx_d mX2_add 23 (.putfield 19) 3 := gx_dk (by decide +kernel)
theorem dX2_add_26 : gx_d mX2_add 26 (.aload_n 0) 1 := gx_dk (by decide +kernel)
theorem dX2_add_27 : gx_d mX2_add 27 (.iload 4) 2 := gx_dk (by decide +kernel)
theorem dX2_add_29 : gx_d mX2_add 29 (.iconst 0) 1 := gx_dk (by decide +kernel)
theorem dX2_add_30 : gx_d mX2_add 30 (.iload_n 1) 1 := gx_dk (by decide +kernel)
theorem dX2_add_31 : gx_d mX2_add 31 (.invokevirtual 27) 3 := gx_dk (by decide +kernel)
theorem dX2_add_34 : gx_d mX2_add 34 (.aload_n 0) 1 := gx_dk (by decide +kernel)
theorem dX2_add_35 : gx_d mX2_add 35 (.iload 4) 2 := gx_dk (by decide +kernel)
theorem dX2_add_37 : gx_d mX2_add 37 (.iconst 1) 1 := gx_dk (by decide +kernel)
theorem dX2_add_38 : gx_d mX2_add 38 (.iload_n 2) 1 := gx_dk (by decide +kernel)
theorem dX2_add_39 : gx_d mX2_add 39 (.invokevirtual 27) 3 := gx_dk (by decide +kernel)
theorem dX2_add_42 : gx_d mX2_add 42 (.aload_n 0) 1 := gx_dk (by decide +kernel)
theorem dX2_add_43 : gx_d mX2_add 43 (.iload 4) 2 := gx_dk (by decide +kernel)
theorem dX2_add_45 : gx_d mX2_add 45 (.iconst 2) 1 := gx_dk (by decide +kernel)
theorem dX2_add_46 : gx_d mX2_add 46 (.iload_n 3) 1 := gx_dk (by decide +kernel)
theorem dX2_add_47 : gx_d mX2_add 47 (.invokevirtual 27) 3 := gx_dk (by decide +kernel)
theorem dX2_add_50 : gx_d mX2_add 50 (.aload_n 0) 1 := gx_dk (by decide +kernel)
theorem dX2_add_51 : gx_d mX2_add 51 (.iload 4) 2 := gx_dk (by decide +kernel)
theorem dX2_add_53 : gx_d mX2_add 53 (.iconst 3) 1 := gx_dk (by decide +kernel)
theorem dX2_add_54 : gx_d mX2_add 54 (.iconst 0) 1 := gx_dk (by decide +kernel)
theorem dX2_add_55 : gx_d mX2_add 55 (.invokevirtual 27) 3 := gx_dk (by decide +kernel)
theorem dX2_add_58 : gx_d mX2_add 58 (.iload 4) 2 := gx_dk (by decide +kernel)
theorem dX2_add_60 : gx_d mX2_add 60 (.ireturn) 1 := gx_dk (by decide +kernel)
theorem dX2_placeOf_0 : gx_d mX2_placeOf 0 (.iload_n 2) 1 := gx_dk (by decide +kernel)
theorem dX2_placeOf_1 : gx_d mX2_placeOf 1 (.iconst 4) 1 := gx_dk (by decide +kernel)
theorem dX2_placeOf_2 : gx_d mX2_placeOf 2 (.if_icmp .lt 24) 3 := gx_dk (by decide +kernel)
theorem dX2_placeOf_5 : gx_d mX2_placeOf 5 (.iload_n 2) 1 := gx_dk (by decide +kernel)
theorem dX2_placeOf_6 : gx_d mX2_placeOf 6 (.bipush 7) 2 := gx_dk (by decide +kernel)
theorem dX2_placeOf_8 : gx_d mX2_placeOf 8 (.if_icmp .gt 16) 3 := gx_dk (by decide +kernel)
theorem dX2_placeOf_11 : gx_d mX2_placeOf 11 (.iload_n 1) 1 := gx_dk (by decide +kernel)
theorem dX2_placeOf_12 : gx_d mX2_placeOf 12 (.ifCond .ne 12) 3 := gx_dk (by decide +kernel)
theorem dX2_placeOf_15 : gx_d mX2_placeOf 15 (.bipush 24) 2 := gx_dk (by decide +kernel)
theorem dX2_placeOf_17 : gx_d mX2_placeOf 17 (.iload_n 2) 1 := gx_dk (by decide +kernel)
theorem dX2_placeOf_18 : gx_d mX2_placeOf 18 (.iadd) 1 := gx_dk (by decide +kernel)
theorem dX2_placeOf_19 : gx_d mX2_placeOf 19 (.iconst 4) 1 := gx_dk (by decide +kernel)
theorem dX2_placeOf_20 : gx_d mX2_placeOf 20 (.isub) 1 := gx_dk (by decide +kernel)
theorem dX2_placeOf_21 : gx_d mX2_placeOf 21 (.goto 4) 3 := gx_dk (by decide +kernel)
theorem dX2_placeOf_24 : gx_d mX2_placeOf 24 (.iconst (-1)) 1 := gx_dk (by decide +kernel)
theorem dX2_placeOf_25 : gx_d mX2_placeOf 25 (.ireturn) 1 := gx_dk (by decide +kernel)
theorem dX2_placeOf_26 : gx_d mX2_placeOf 26 (.iload_n 2) 1 := gx_dk (by decide +kernel)
theorem dX2_placeOf_27 : gx_d mX2_placeOf 27 (.ifCond .lt 24) 3 := gx_dk (by decide +kernel)
theorem dX2_placeOf_30 : gx_d mX2_placeOf 30 (.iload_n 1) 1 := gx_dk (by decide +kernel)
theorem dX2_placeOf_31 : gx_d mX2_placeOf 31 (.ifCond .lt 20) 3 := gx_dk (by decide +kernel)
theorem dX2_placeOf_34 : gx_d mX2_placeOf 34 (.iload_n 1) 1 := gx_dk (by decide +kernel)
theorem dX2_placeOf_35 : gx_d mX2_placeOf 35 (.aload_n 0) 1 := gx_dk (by decide +kernel)
theorem dX2_placeOf_36 : gx_d mX2_placeOf 36 (.getfield 19) 3 := gx_dk (by decide +kernel)
theorem dX2_placeOf_39 : gx_d mX2_placeOf 39 (.if_icmp .ge 12) 3 := gx_dk (by decide +kernel)
theorem dX2_placeOf_42 : gx_d mX2_placeOf 42 (.iload_n 2) 1 := gx_dk (by decide +kernel)
theorem dX2_placeOf_43 : gx_d mX2_placeOf 43 (.bipush 6) 2 := gx_dk (by decide +kernel)
theorem dX2_placeOf_45 : gx_d mX2_placeOf 45 (.imul) 1 := gx_dk (by decide +kernel)
theorem dX2_placeOf_46 : gx_d mX2_placeOf 46 (.iload_n 1) 1 := gx_dk (by decide +kernel)
theorem dX2_placeOf_47 : gx_d mX2_placeOf 47 (.iadd) 1 := gx_dk (by decide +kernel)
theorem dX2_placeOf_48 : gx_d mX2_placeOf 48 (.goto 4) 3 := gx_dk (by decide +kernel)
theorem dX2_placeOf_51 : gx_d mX2_placeOf 51 (.iconst (-1)) 1 := gx_dk (by decide +kernel)
theorem dX2_placeOf_52 : gx_d mX2_placeOf 52 (.ireturn) 1 := gx_dk (by decide +kernel)
theorem dX2_number_0 : gx_d mX2_number 0 (.aload_n 0) 1 := gx_dk (by decide +kernel)
theorem dX2_number_1 : gx_d mX2_number 1 (.iload_n 1) 1 := gx_dk (by decide +kernel)
theorem dX2_number_2 : gx_d mX2_number 2 (.iload_n 2) 1 := gx_dk (by decide +kernel)
theorem dX2_number_3 : gx_d mX2_number 3 (.invokevirtual 31) 3 := gx_dk (by decide +kernel)
theorem dX2_number_6 : gx_d mX2_number 6 (.istore_n 3) 1 := gx_dk (by decide +kernel)
theorem dX2_number_7 : gx_d mX2_number 7 (.iload_n 3) 1 := gx_dk (by decide +kernel)
theorem dX2_number_8 : gx_d mX2_number 8 (.ifCond .lt 18) 3 := gx_dk (by decide +kernel)
theorem dX2_number_11 : gx_d mX2_number 11 (.iload_n 3) 1 := gx_dk (by decide +kernel)
theorem dX2_number_12 : gx_d mX2_number 12 (.bipush 28) 2 := gx_dk (by decide +kernel)
theorem dX2_number_14 : gx_d mX2_number 14 (.if_icmp .ge 12) 3 := gx_dk (by decide +kernel)
theorem dX2_number_17 : gx_d mX2_number 17 (.aload_n 0) 1 := gx_dk (by decide +kernel)
theorem dX2_number_18 : gx_d mX2_number 18 (.getfield 11) 3 := gx_dk (by decide +kernel)
theorem dX2_number_21 : gx_d mX2_number 21 (.iload_n 3) 1 := gx_dk (by decide +kernel)
theorem dX2_number_22 : gx_d mX2_number 22 (.iaload) 1 := gx_dk (by decide +kernel)
theorem dX2_number_23 : gx_d mX2_number 23 (.goto 5) 3 := gx_dk (by decide +kernel)
theorem dX2_number_26 : gx_d mX2_number 26 (.ldc 35) 2 := gx_dk (by decide +kernel)
theorem dX2_number_28 : gx_d mX2_number 28 (.ireturn) 1 := gx_dk (by decide +kernel)
theorem dX2_become_0 : gx_d mX2_become 0 (.aload_n 0) 1 := gx_dk (by decide +kernel)
theorem dX2_become_1 : gx_d mX2_become 1 (.iload_n 1) 1 := gx_dk (by decide +kernel)
theorem dX2_become_2 : gx_d mX2_become 2 (.iload_n 2) 1 := gx_dk (by decide +kernel)
theorem dX2_become_3 : gx_d mX2_become 3 (.invokevirtual 31) 3 := gx_dk (by decide +kernel)
theorem dX2_become_6 : gx_d mX2_become 6 (.istore 4) 2 := gx_dk (by decide +kernel)
theorem dX2_become_8 : gx_d mX2_become 8 (.iload 4) 2 := gx_dk (by decide +kernel)
theorem dX2_become_10 : gx_d mX2_become 10 (.ifCond .lt 18) 3 := gx_dk (by decide +kernel)
theorem dX2_become_13 : gx_d mX2_become 13 (.iload 4) 2 := gx_dk (by decide +kernel)
theorem dX2_become_15 : gx_d mX2_become 15 (.bipush 28) 2 := gx_dk (by decide +kernel)
theorem dX2_become_17 : gx_d mX2_become 17 (.if_icmp .ge 11) 3 := gx_dk (by decide +kernel)
theorem dX2_become_20 : gx_d mX2_become 20 (.aload_n 0) 1 := gx_dk (by decide +kernel)
theorem dX2_become_21 : gx_d mX2_become 21 (.getfield 11) 3 := gx_dk (by decide +kernel)
theorem dX2_become_24 : gx_d mX2_become 24 (.iload 4) 2 := gx_dk (by decide +kernel)
theorem dX2_become_26 : gx_d mX2_become 26 (.iload_n 3) 1 := gx_dk (by decide +kernel)
theorem dX2_become_27 : gx_d mX2_become 27 (.iastore) 1 := gx_dk (by decide +kernel)
theorem dX2_become_28 : gx_d mX2_become 28 (.return_) 1 := gx_dk (by decide +kernel)
theorem dX2_copy_0 : gx_d mX2_copy 0 (.aload_n 1) 1 := gx_dk (by decide +kernel)
theorem dX2_copy_1 : gx_d mX2_copy 1 (.getfield 11) 3 := gx_dk (by decide +kernel)
theorem dX2_copy_4 : gx_d mX2_copy 4 (.iconst 0) 1 := gx_dk (by decide +kernel)
theorem dX2_copy_5 : gx_d mX2_copy 5 (.aload_n 0) 1 := gx_dk (by decide +kernel)
theorem dX2_copy_6 : gx_d mX2_copy 6 (.getfield 11) 3 := gx_dk (by decide +kernel)
theorem dX2_copy_9 : gx_d mX2_copy 9 (.iconst 0) 1 := gx_dk (by decide +kernel)
theorem dX2_copy_10 : gx_d mX2_copy 10 (.bipush 28) 2 := gx_dk (by decide +kernel)
theorem dX2_copy_12 : gx_d mX2_copy 12 (.invokestatic 36) 3 := gx_dk (by decide +kernel)
theorem dX2_copy_15 : gx_d mX2_copy 15 (.aload_n 0) 1 := gx_dk (by decide +kernel)
theorem dX2_copy_16 : gx_d mX2_copy 16 (.aload_n 1) 1 := gx_dk (by decide +kernel)
theorem dX2_copy_17 : gx_d mX2_copy 17 (.getfield 19) 3 := gx_dk (by decide +kernel)
theorem dX2_copy_20 : gx_d mX2_copy 20 (.putfield 19) 3 := gx_dk (by decide +kernel)
theorem dX2_copy_23 : gx_d mX2_copy 23 (.aload_n 0) 1 := gx_dk (by decide +kernel)
theorem dX2_copy_24 : gx_d mX2_copy 24 (.aload_n 1) 1 := gx_dk (by decide +kernel)
theorem dX2_copy_25 : gx_d mX2_copy 25 (.getfield 15) 3 := gx_dk (by decide +kernel)
theorem dX2_copy_28 : gx_d mX2_copy 28 (.putfield 15) 3 := gx_dk (by decide +kernel)
theorem dX2_copy_31 : gx_d mX2_copy 31 (.return_) 1 := gx_dk (by decide +kernel)
theorem dX2_giveWaits_0 : gx_d mX2_giveWaits 0 (.aload_n 0) 1 := gx_dk (by decide +kernel)
theorem dX2_giveWaits_1 : gx_d mX2_giveWaits 1 (.getfield 11) 3 := gx_dk (by decide +kernel)
theorem dX2_giveWaits_4 : gx_d mX2_giveWaits 4 (.bipush 18) 2 := gx_dk (by decide +kernel)
theorem dX2_giveWaits_6 : gx_d mX2_giveWaits 6 (.aload_n 1) 1 := gx_dk (by decide +kernel)
theorem dX2_giveWaits_7 : gx_d mX2_giveWaits 7 (.iconst 0) 1 := gx_dk (by decide +kernel)
theorem dX2_giveWaits_8 : gx_d mX2_giveWaits 8 (.aload_n 1) 1 := gx_dk (by decide +kernel)
theorem dX2_giveWaits_9 : gx_d mX2_giveWaits 9 (.arraylength) 1 := gx_dk (by decide +kernel)
theorem dX2_giveWaits_10 : gx_d mX2_giveWaits 10 (.bipush 6) 2 := gx_dk (by decide +kernel)
theorem dX2_giveWaits_12 : gx_d mX2_giveWaits 12 (.invokestatic 42) 3 := gx_dk (by decide +kernel)
theorem dX2_giveWaits_15 : gx_d mX2_giveWaits 15 (.invokestatic 36) 3 := gx_dk (by decide +kernel)
theorem dX2_giveWaits_18 : gx_d mX2_giveWaits 18 (.return_) 1 := gx_dk (by decide +kernel)
theorem dX2_takeWaits_0 : gx_d mX2_takeWaits 0 (.iload_n 2) 1 := gx_dk (by decide +kernel)
theorem dX2_takeWaits_1 : gx_d mX2_takeWaits 1 (.aload_n 1) 1 := gx_dk (by decide +kernel)
theorem dX2_takeWaits_2 : gx_d mX2_takeWaits 2 (.arraylength) 1 := gx_dk (by decide +kernel)
theorem dX2_takeWaits_3 : gx_d mX2_takeWaits 3 (.invokestatic 42) 3 := gx_dk (by decide +kernel)
theorem dX2_takeWaits_6 : gx_d mX2_takeWaits 6 (.bipush 6) 2 := gx_dk (by decide +kernel)
theorem dX2_takeWaits_8 : gx_d mX2_takeWaits 8 (.invokestatic 42) 3 := gx_dk (by decide +kernel)
theorem dX2_takeWaits_11 : gx_d mX2_takeWaits 11 (.istore_n 3) 1 := gx_dk (by decide +kernel)
theorem dX2_takeWaits_12 : gx_d mX2_takeWaits 12 (.aload_n 1) 1 := gx_dk (by decide +kernel)
theorem dX2_takeWaits_13 : gx_d mX2_takeWaits 13 (.iconst 0) 1 := gx_dk (by decide +kernel)
theorem dX2_takeWaits_14 : gx_d mX2_takeWaits 14 (.aload_n 0) 1 := gx_dk (by decide +kernel)
theorem dX2_takeWaits_15 : gx_d mX2_takeWaits 15 (.getfield 11) 3 := gx_dk (by decide +kernel)
theorem dX2_takeWaits_18 : gx_d mX2_takeWaits 18 (.bipush 18) 2 := gx_dk (by decide +kernel)
theorem dX2_takeWaits_20 : gx_d mX2_takeWaits 20 (.iload_n 3) 1 := gx_dk (by decide +kernel)
theorem dX2_takeWaits_21 : gx_d mX2_takeWaits 21 (.iconst 0) 1 := gx_dk (by decide +kernel)
theorem dX2_takeWaits_22 : gx_d mX2_takeWaits 22 (.invokestatic 47) 3 := gx_dk (by decide +kernel)
theorem dX2_takeWaits_25 : gx_d mX2_takeWaits 25 (.invokestatic 36) 3 := gx_dk (by decide +kernel)
theorem dX2_takeWaits_28 : gx_d mX2_takeWaits 28 (.return_) 1 := gx_dk (by decide +kernel)
theorem dX2_isRunner_0 : gx_d mX2_isRunner 0 (.iload_n 1) 1 := gx_dk (by decide +kernel)
theorem dX2_isRunner_1 : gx_d mX2_isRunner 1 (.bipush 10) 2 := gx_dk (by decide +kernel)
theorem dX2_isRunner_3 : gx_d mX2_isRunner 3 (.idiv) 1 := gx_dk (by decide +kernel)
theorem dX2_isRunner_4 : gx_d mX2_isRunner 4 (.aload_n 0) 1 := gx_dk (by decide +kernel)
theorem dX2_isRunner_5 : gx_d mX2_isRunner 5 (.iconst 0) 1 := gx_dk (by decide +kernel)
theorem dX2_isRunner_6 : gx_d mX2_isRunner 6 (.iconst 4) 1 := gx_dk (by decide +kernel)
theorem dX2_isRunner_7 : gx_d mX2_isRunner 7 (.invokevirtual 50) 3 := gx_dk (by decide +kernel)
theorem dX2_isRunner_10 : gx_d mX2_isRunner 10 (.if_icmp .lt 20) 3 := gx_dk (by decide +kernel)
theorem dX2_isRunner_13 : gx_d mX2_isRunner 13 (.aload_n 0) 1 := gx_dk (by decide +kernel)
theorem dX2_isRunner_14 : gx_d mX2_isRunner 14 (.aload_n 0) 1 := gx_dk (by decide +kernel)
theorem dX2_isRunner_15 : gx_d mX2_isRunner 15 (.iconst 0) 1 := gx_dk (by decide +kernel)
theorem dX2_isRunner_16 : gx_d mX2_isRunner 16 (.iconst 5) 1 := gx_dk (by decide +kernel)
theorem dX2_isRunner_17 : gx_d mX2_isRunner 17 (.invokevirtual 50) 3 := gx_dk (by decide +kernel)
theorem dX2_isRunner_20 : gx_d mX2_isRunner 20 (.invokevirtual 53) 3 := gx_dk (by decide +kernel)
theorem dX2_isRunner_23 : gx_d mX2_isRunner 23 (.ifCond .eq 7) 3 := gx_dk (by decide +kernel)
theorem dX2_isRunner_26 : gx_d mX2_isRunner 26 (.iconst 1) 1 := gx_dk (by decide +kernel)
theorem dX2_isRunner_27 : gx_d mX2_isRunner 27 (.goto 4) 3 := gx_dk (by decide +kernel)
theorem dX2_isRunner_30 : gx_d mX2_isRunner 30 (.iconst 0) 1 := gx_dk (by decide +kernel)
theorem dX2_isRunner_31 : gx_d mX2_isRunner 31 (.ireturn) 1 := gx_dk (by decide +kernel)
theorem dX2_wants_0 : gx_d mX2_wants 0 (.aload_n 0) 1 := gx_dk (by decide +kernel)
theorem dX2_wants_1 : gx_d mX2_wants 1 (.iload_n 1) 1 := gx_dk (by decide +kernel)
theorem dX2_wants_2 : gx_d mX2_wants 2 (.iconst 0) 1 := gx_dk (by decide +kernel)
theorem dX2_wants_3 : gx_d mX2_wants 3 (.invokevirtual 50) 3 := gx_dk (by decide +kernel)
theorem dX2_wants_6 : gx_d mX2_wants 6 (.istore_n 3) 1 := gx_dk (by decide +kernel)
theorem dX2_wants_7 : gx_d mX2_wants 7 (.aload_n 0) 1 := gx_dk (by decide +kernel)
theorem dX2_wants_8 : gx_d mX2_wants 8 (.iload_n 1) 1 := gx_dk (by decide +kernel)
theorem dX2_wants_9 : gx_d mX2_wants 9 (.iconst 3) 1 := gx_dk (by decide +kernel)
theorem dX2_wants_10 : gx_d mX2_wants 10 (.invokevirtual 50) 3 := gx_dk (by decide +kernel)
theorem dX2_wants_13 : gx_d mX2_wants 13 (.istore 4) 2 := gx_dk (by decide +kernel)
theorem dX2_wants_15 : gx_d mX2_wants 15 (.aload_n 0) 1 := gx_dk (by decide +kernel)
theorem dX2_wants_16 : gx_d mX2_wants 16 (.iload_n 1) 1 := gx_dk (by decide +kernel)
theorem dX2_wants_17 : gx_d mX2_wants 17 (.iconst 1) 1 := gx_dk (by decide +kernel)
theorem dX2_wants_18 : gx_d mX2_wants 18 (.invokevirtual 50) 3 := gx_dk (by decide +kernel)
theorem dX2_wants_21 : gx_d mX2_wants 21 (.istore 5) 2 := gx_dk (by decide +kernel)
theorem dX2_wants_23 : gx_d mX2_wants 23 (.iload_n 2) 1 := gx_dk (by decide +kernel)
theorem dX2_wants_24 : gx_d mX2_wants 24 (.bipush 10) 2 := gx_dk (by decide +kernel)
theorem dX2_wants_26 : gx_d mX2_wants 26 (.idiv) 1 := gx_dk (by decide +kernel)
theorem dX2_wants_27 : gx_d mX2_wants 27 (.istore 6) 2 := gx_dk (by decide +kernel)
theorem dX2_wants_29 : gx_d mX2_wants 29 (.aload_n 0) 1 := gx_dk (by decide +kernel)
theorem dX2_wants_30 : gx_d mX2_wants 30 (.getfield 15) 3 := gx_dk (by decide +kernel)
theorem dX2_wants_33 : gx_d mX2_wants 33 (.invokevirtual 57) 3 := gx_dk (by decide +kernel)
theorem dX2_wants_36 : gx_d mX2_wants 36 (.ifCond .ne 14) 3 := gx_dk (by decide +kernel)
theorem dX2_wants_39 : gx_d mX2_wants 39 (.iload_n 3) 1 := gx_dk (by decide +kernel)
theorem dX2_wants_40 : gx_d mX2_wants 40 (.iload 4) 2 := gx_dk (by decide +kernel)
theorem dX2_wants_42 : gx_d mX2_wants 42 (.iadd) 1 := gx_dk (by decide +kernel)
theorem dX2_wants_43 : gx_d mX2_wants 43 (.iload 5) 2 := gx_dk (by decide +kernel)
theorem dX2_wants_45 : gx_d mX2_wants 45 (.iadd) 1 := gx_dk (by decide +kernel)
theorem dX2_wants_46 : gx_d mX2_wants 46 (.iload 6) 2 := gx_dk (by decide +kernel)
theorem dX2_wants_48 : gx_d mX2_wants 48 (.isub) 1 := gx_dk (by decide +kernel)
theorem dX2_wants_49 : gx_d mX2_wants 49 (.ireturn) 1 := gx_dk (by decide +kernel)
theorem dX2_wants_50 : gx_d mX2_wants 50 (.aload_n 0) 1 := gx_dk (by decide +kernel)
theorem dX2_wants_51 : gx_d mX2_wants 51 (.getfield 15) 3 := gx_dk (by decide +kernel)
theorem dX2_wants_54 : gx_d mX2_wants 54 (.iload_n 3) 1 := gx_dk (by decide +kernel)
theorem dX2_wants_55 : gx_d mX2_wants 55 (.iload 4) 2 := gx_dk (by decide +kernel)
theorem dX2_wants_57 : gx_d mX2_wants 57 (.iload 5) 2 := gx_dk (by decide +kernel)
theorem dX2_wants_59 : gx_d mX2_wants 59 (.iload 6) 2 := gx_dk (by decide +kernel)
theorem dX2_wants_61 : gx_d mX2_wants 61 (.iload_n 2) 1 := gx_dk (by decide +kernel)
theorem dX2_wants_62 : gx_d mX2_wants 62 (.bipush 10) 2 := gx_dk (by decide +kernel)
theorem dX2_wants_64 : gx_d mX2_wants 64 (.irem) 1 := gx_dk (by decide +kernel)
theorem dX2_wants_65 : gx_d mX2_wants 65 (.iload_n 1) 1 := gx_dk (by decide +kernel)
theorem dX2_wants_66 : gx_d mX2_wants 66 (.invokevirtual 62) 3 := gx_dk (by decide +kernel)
theorem dX2_wants_69 : gx_d mX2_wants 69 (.istore 7) 2 := gx_dk (by decide +kernel)
theorem dX2_wants_71 : gx_d mX2_wants 71 (.sipush (-999)) 3 := gx_dk (by decide +kernel)
theorem dX2_wants_74 : gx_d mX2_wants 74 (.sipush 999) 3 := gx_dk (by decide +kernel)
theorem dX2_wants_77 : gx_d mX2_wants 77 (.iload 7) 2 := gx_dk (by decide +kernel)
theorem dX2_wants_79 : gx_d mX2_wants 79 (.invokestatic 42) 3 := gx_dk (by decide +kernel)
theorem dX2_wants_82 : gx_d mX2_wants 82 (.invokestatic 47) 3 := gx_dk (by decide +kernel)
theorem dX2_wants_85 : gx_d mX2_wants 85 (.ireturn) 1 := gx_dk (by decide +kernel)
theorem dX2_haver_0 : gx_d mX2_haver 0 (.aload_n 0) 1 := gx_dk (by decide +kernel)
theorem dX2_haver_1 : gx_d mX2_haver 1 (.iload_n 1) 1 := gx_dk (by decide +kernel)
theorem dX2_haver_2 : gx_d mX2_haver 2 (.invokevirtual 66) 3 := gx_dk (by decide +kernel)
theorem dX2_haver_5 : gx_d mX2_haver 5 (.ifCond .eq 12) 3 := gx_dk (by decide +kernel)
theorem dX2_haver_8 : gx_d mX2_haver 8 (.aload_n 0) 1 := gx_dk (by decide +kernel)
theorem dX2_haver_9 : gx_d mX2_haver 9 (.iconst 0) 1 := gx_dk (by decide +kernel)
theorem dX2_haver_10 : gx_d mX2_haver 10 (.iconst 5) 1 := gx_dk (by decide +kernel)
theorem dX2_haver_11 : gx_d mX2_haver 11 (.invokevirtual 50) 3 := gx_dk (by decide +kernel)
theorem dX2_haver_14 : gx_d mX2_haver 14 (.goto 9) 3 := gx_dk (by decide +kernel)
theorem dX2_haver_17 : gx_d mX2_haver 17 (.aload_n 0) 1 := gx_dk (by decide +kernel)
theorem dX2_haver_18 : gx_d mX2_haver 18 (.iload_n 1) 1 := gx_dk (by decide +kernel)
theorem dX2_haver_19 : gx_d mX2_haver 19 (.iconst 0) 1 := gx_dk (by decide +kernel)
theorem dX2_haver_20 : gx_d mX2_haver 20 (.invokevirtual 69) 3 := gx_dk (by decide +kernel)
theorem dX2_haver_23 : gx_d mX2_haver 23 (.ireturn) 1 := gx_dk (by decide +kernel)
theorem dX2_wanter_0 : gx_d mX2_wanter 0 (.bipush (-2)) 2 := gx_dk (by decide +kernel)
theorem dX2_wanter_2 : gx_d mX2_wanter 2 (.istore_n 3) 1 := gx_dk (by decide +kernel)
theorem dX2_wanter_3 : gx_d mX2_wanter 3 (.iconst 0) 1 := gx_dk (by decide +kernel)
theorem dX2_wanter_4 : gx_d mX2_wanter 4 (.istore 4) 2 := gx_dk (by decide +kernel)
theorem dX2_wanter_6 : gx_d mX2_wanter 6 (.iconst 0) 1 := gx_dk (by decide +kernel)
theorem dX2_wanter_7 : gx_d mX2_wanter 7 (.istore 5) 2 := gx_dk (by decide +kernel)
theorem dX2_wanter_9 : gx_d mX2_wanter 9 (.iload 5) 2 := gx_dk (by decide +kernel)
theorem dX2_wanter_11 : gx_d mX2_wanter 11 (.aload_n 0) 1 := gx_dk (by decide +kernel)
theorem dX2_wanter_12 : gx_d mX2_wanter 12 (.getfield 19) 3 := gx_dk (by decide +kernel)
theorem dX2_wanter_15 : gx_d mX2_wanter 15 (.if_icmp .ge 50) 3 := gx_dk (by decide +kernel)
theorem dX2_wanter_18 : gx_d mX2_wanter 18 (.iload_n 2) 1 := gx_dk (by decide +kernel)
theorem dX2_wanter_19 : gx_d mX2_wanter 19 (.iload 5) 2 := gx_dk (by decide +kernel)
theorem dX2_wanter_21 : gx_d mX2_wanter 21 (.ishr) 1 := gx_dk (by decide +kernel)
theorem dX2_wanter_22 : gx_d mX2_wanter 22 (.iconst 1) 1 := gx_dk (by decide +kernel)
theorem dX2_wanter_23 : gx_d mX2_wanter 23 (.iand) 1 := gx_dk (by decide +kernel)
theorem dX2_wanter_24 : gx_d mX2_wanter 24 (.ifCond .eq 6) 3 := gx_dk (by decide +kernel)
theorem dX2_wanter_27 : gx_d mX2_wanter 27 (.goto 32) 3 := gx_dk (by decide +kernel)
theorem dX2_wanter_30 : gx_d mX2_wanter 30 (.aload_n 0) 1 := gx_dk (by decide +kernel)
theorem dX2_wanter_31 : gx_d mX2_wanter 31 (.iload 5) 2 := gx_dk (by decide +kernel)
theorem dX2_wanter_33 : gx_d mX2_wanter 33 (.iload_n 1) 1 := gx_dk (by decide +kernel)
theorem dX2_wanter_34 : gx_d mX2_wanter 34 (.invokevirtual 72) 3 := gx_dk (by decide +kernel)
theorem dX2_wanter_37 : gx_d mX2_wanter 37 (.istore 6) 2 := gx_dk (by decide +kernel)
theorem dX2_wanter_39 : gx_d mX2_wanter 39 (.iload_n 3) 1 := gx_dk (by decide +kernel)
theorem dX2_wanter_40 : gx_d mX2_wanter 40 (.bipush (-2)) 2 := gx_dk (by decide +kernel)
theorem dX2_wanter_42 : gx_d mX2_wanter 42 (.if_icmp .eq 10) 3 := gx_dk (by decide +kernel)
theorem dX2_wanter_45 : gx_d mX2_wanter 45 (.iload 6) 2 := gx_dk (by decide +kernel)
theorem dX2_wanter_47 : gx_d mX2_wanter 47 (.iload 4) 2 := gx_dk (by decide +kernel)
theorem dX2_wanter_49 : gx_d mX2_wanter 49 (.if_icmp .le 10) 3 := gx_dk (by decide +kernel)
theorem dX2_wanter_52 : gx_d mX2_wanter 52 (.iload 5) 2 := gx_dk (by decide +kernel)
theorem dX2_wanter_54 : gx_d mX2_wanter 54 (.istore_n 3) 1 := gx_dk (by decide +kernel)
theorem dX2_wanter_55 : gx_d mX2_wanter 55 (.iload 6) 2 := gx_dk (by decide +kernel)
theorem dX2_wanter_57 : gx_d mX2_wanter 57 (.istore 4) 2 := gx_dk (by decide +kernel)
theorem dX2_wanter_59 : gx_d mX2_wanter 59 (.iinc 5 1) 3 := gx_dk (by decide +kernel)
theorem dX2_wanter_62 : gx_d mX2_wanter 62 (.goto (-53)) 3 := gx_dk (by decide +kernel)
theorem dX2_wanter_65 : gx_d mX2_wanter 65 (.iload_n 3) 1 := gx_dk (by decide +kernel)
theorem dX2_wanter_66 : gx_d mX2_wanter 66 (.ireturn) 1 := gx_dk (by decide +kernel)
theorem dX2_asked_0 : gx_d mX2_asked 0 (.aload_n 0) 1 := gx_dk (by decide +kernel)
theorem dX2_asked_1 : gx_d mX2_asked 1 (.iload_n 1) 1 := gx_dk (by decide +kernel)
theorem dX2_asked_2 : gx_d mX2_asked 2 (.invokevirtual 66) 3 := gx_dk (by decide +kernel)
theorem dX2_asked_5 : gx_d mX2_asked 5 (.ifCond .eq 19) 3 := gx_dk (by decide +kernel)
theorem dX2_asked_8 : gx_d mX2_asked 8 (.iload_n 2) 1 := gx_dk (by decide +kernel)
theorem dX2_asked_9 : gx_d mX2_asked 9 (.ifCond .ne 12) 3 := gx_dk (by decide +kernel)
theorem dX2_asked_12 : gx_d mX2_asked 12 (.aload_n 0) 1 := gx_dk (by decide +kernel)
theorem dX2_asked_13 : gx_d mX2_asked 13 (.iconst 0) 1 := gx_dk (by decide +kernel)
theorem dX2_asked_14 : gx_d mX2_asked 14 (.iconst 5) 1 := gx_dk (by decide +kernel)
theorem dX2_asked_15 : gx_d mX2_asked 15 (.invokevirtual 50) 3 := gx_dk (by decide +kernel)
theorem dX2_asked_18 : gx_d mX2_asked 18 (.goto 5) 3 := gx_dk (by decide +kernel)
theorem dX2_asked_21 : gx_d mX2_asked 21 (.bipush (-2)) 2 := gx_dk (by decide +kernel)
theorem dX2_asked_23 : gx_d mX2_asked 23 (.ireturn) 1 := gx_dk (by decide +kernel)
theorem dX2_asked_24 : gx_d mX2_asked 24 (.iconst 0) 1 := gx_dk (by decide +kernel)
theorem dX2_asked_25 : gx_d mX2_asked 25 (.istore_n 3) 1 := gx_dk (by decide +kernel)
theorem dX2_asked_26 : gx_d mX2_asked 26 (.iconst 0) 1 := gx_dk (by decide +kernel)
theorem dX2_asked_27 : gx_d mX2_asked 27 (.istore 4) 2 := gx_dk (by decide +kernel)
theorem dX2_asked_29 : gx_d mX2_asked 29 (.iload 4) 2 := gx_dk (by decide +kernel)
theorem dX2_asked_31 : gx_d mX2_asked 31 (.aload_n 0) 1 := gx_dk (by decide +kernel)
theorem dX2_asked_32 : gx_d mX2_asked 32 (.getfield 19) 3 := gx_dk (by decide +kernel)
theorem dX2_asked_35 : gx_d mX2_asked 35 (.if_icmp .ge 38) 3 := gx_dk (by decide +kernel)
theorem dX2_asked_38 : gx_d mX2_asked 38 (.aload_n 0) 1 := gx_dk (by decide +kernel)
theorem dX2_asked_39 : gx_d mX2_asked 39 (.iload_n 1) 1 := gx_dk (by decide +kernel)
theorem dX2_asked_40 : gx_d mX2_asked 40 (.iload_n 3) 1 := gx_dk (by decide +kernel)
theorem dX2_asked_41 : gx_d mX2_asked 41 (.invokevirtual 69) 3 := gx_dk (by decide +kernel)
theorem dX2_asked_44 : gx_d mX2_asked 44 (.istore 5) 2 := gx_dk (by decide +kernel)
theorem dX2_asked_46 : gx_d mX2_asked 46 (.iload 4) 2 := gx_dk (by decide +kernel)
theorem dX2_asked_48 : gx_d mX2_asked 48 (.iload_n 2) 1 := gx_dk (by decide +kernel)
theorem dX2_asked_49 : gx_d mX2_asked 49 (.if_icmp .eq 8) 3 := gx_dk (by decide +kernel)
theorem dX2_asked_52 : gx_d mX2_asked 52 (.iload 5) 2 := gx_dk (by decide +kernel)
theorem dX2_asked_54 : gx_d mX2_asked 54 (.ifCond .ge 6) 3 := gx_dk (by decide +kernel)
theorem dX2_asked_57 : gx_d mX2_asked 57 (.iload 5) 2 := gx_dk (by decide +kernel)
theorem dX2_asked_59 : gx_d mX2_asked 59 (.ireturn) 1 := gx_dk (by decide +kernel)
theorem dX2_asked_60 : gx_d mX2_asked 60 (.iload_n 3) 1 := gx_dk (by decide +kernel)
theorem dX2_asked_61 : gx_d mX2_asked 61 (.iconst 1) 1 := gx_dk (by decide +kernel)
theorem dX2_asked_62 : gx_d mX2_asked 62 (.iload 5) 2 := gx_dk (by decide +kernel)
theorem dX2_asked_64 : gx_d mX2_asked 64 (.ishl) 1 := gx_dk (by decide +kernel)
theorem dX2_asked_65 : gx_d mX2_asked 65 (.ior) 1 := gx_dk (by decide +kernel)
theorem dX2_asked_66 : gx_d mX2_asked 66 (.istore_n 3) 1 := gx_dk (by decide +kernel)
theorem dX2_asked_67 : gx_d mX2_asked 67 (.iinc 4 1) 3 := gx_dk (by decide +kernel)
theorem dX2_asked_70 : gx_d mX2_asked 70 (.goto (-41)) 3 := gx_dk (by decide +kernel)
theorem dX2_asked_73 : gx_d mX2_asked 73 (.bipush (-2)) 2 := gx_dk (by decide +kernel)
theorem dX2_asked_75 : gx_d mX2_asked 75 (.ireturn) 1 := gx_dk (by decide +kernel)
theorem dX2_hasAllOf_0 : gx_d mX2_hasAllOf 0 (.iconst 0) 1 := gx_dk (by decide +kernel)
theorem dX2_hasAllOf_1 : gx_d mX2_hasAllOf 1 (.istore_n 3) 1 := gx_dk (by decide +kernel)
theorem dX2_hasAllOf_2 : gx_d mX2_hasAllOf 2 (.iload_n 3) 1 := gx_dk (by decide +kernel)
theorem dX2_hasAllOf_3 : gx_d mX2_hasAllOf 3 (.bipush 10) 2 := gx_dk (by decide +kernel)
theorem dX2_hasAllOf_5 : gx_d mX2_hasAllOf 5 (.if_icmp .ge 25) 3 := gx_dk (by decide +kernel)
theorem dX2_hasAllOf_8 : gx_d mX2_hasAllOf 8 (.aload_n 0) 1 := gx_dk (by decide +kernel)
theorem dX2_hasAllOf_9 : gx_d mX2_hasAllOf 9 (.bipush 10) 2 := gx_dk (by decide +kernel)
theorem dX2_hasAllOf_11 : gx_d mX2_hasAllOf 11 (.iload_n 2) 1 := gx_dk (by decide +kernel)
theorem dX2_hasAllOf_12 : gx_d mX2_hasAllOf 12 (.imul) 1 := gx_dk (by decide +kernel)
theorem dX2_hasAllOf_13 : gx_d mX2_hasAllOf 13 (.iload_n 3) 1 := gx_dk (by decide +kernel)
theorem dX2_hasAllOf_14 : gx_d mX2_hasAllOf 14 (.iadd) 1 := gx_dk (by decide +kernel)
theorem dX2_hasAllOf_15 : gx_d mX2_hasAllOf 15 (.invokevirtual 75) 3 := gx_dk (by decide +kernel)
theorem dX2_hasAllOf_18 : gx_d mX2_hasAllOf 18 (.iload_n 1) 1 := gx_dk (by decide +kernel)
theorem dX2_hasAllOf_19 : gx_d mX2_hasAllOf 19 (.if_icmp .eq 5) 3 := gx_dk (by decide +kernel)
theorem dX2_hasAllOf_22 : gx_d mX2_hasAllOf 22 (.iconst 0) 1 := gx_dk (by decide +kernel)
theorem dX2_hasAllOf_23 : gx_d mX2_hasAllOf 23 (.ireturn) 1 := gx_dk (by decide +kernel)
theorem dX2_hasAllOf_24 : gx_d mX2_hasAllOf 24 (.iinc 3 1) 3 := gx_dk (by decide +kernel)
theorem dX2_hasAllOf_27 : gx_d mX2_hasAllOf 27 (.goto (-25)) 3 := gx_dk (by decide +kernel)
theorem dX2_hasAllOf_30 : gx_d mX2_hasAllOf 30 (.iconst 1) 1 := gx_dk (by decide +kernel)
theorem dX2_hasAllOf_31 : gx_d mX2_hasAllOf 31 (.ireturn) 1 := gx_dk (by decide +kernel)
theorem dX2_settle_0 : gx_d mX2_settle 0 (.iconst 0) 1 := gx_dk (by decide +kernel)
theorem dX2_settle_1 : gx_d mX2_settle 1 (.istore_n 2) 1 := gx_dk (by decide +kernel)
theorem dX2_settle_2 : gx_d mX2_settle 2 (.iload_n 2) 1 := gx_dk (by decide +kernel)
theorem dX2_settle_3 : gx_d mX2_settle 3 (.aload_n 0) 1 := gx_dk (by decide +kernel)
theorem dX2_settle_4 : gx_d mX2_settle 4 (.getfield 19) 3 := gx_dk (by decide +kernel)
theorem dX2_settle_7 : gx_d mX2_settle 7 (.if_icmp .ge 42) 3 := gx_dk (by decide +kernel)
theorem dX2_settle_10 : gx_d mX2_settle 10 (.iload_n 2) 1 := gx_dk (by decide +kernel)
theorem dX2_settle_11 : gx_d mX2_settle 11 (.iload_n 1) 1 := gx_dk (by decide +kernel)
theorem dX2_settle_12 : gx_d mX2_settle 12 (.if_icmp .ne 7) 3 := gx_dk (by decide +kernel)
theorem dX2_settle_15 : gx_d mX2_settle 15 (.iconst 0) 1 := gx_dk (by decide +kernel)
theorem dX2_settle_16 : gx_d mX2_settle 16 (.goto 11) 3 := gx_dk (by decide +kernel)
theorem dX2_settle_19 : gx_d mX2_settle 19 (.aload_n 0) 1 := gx_dk (by decide +kernel)
theorem dX2_settle_20 : gx_d mX2_settle 20 (.iload_n 2) 1 := gx_dk (by decide +kernel)
theorem dX2_settle_21 : gx_d mX2_settle 21 (.iconst 3) 1 := gx_dk (by decide +kernel)
theorem dX2_settle_22 : gx_d mX2_settle 22 (.invokevirtual 50) 3 := gx_dk (by decide +kernel)
theorem dX2_settle_25 : gx_d mX2_settle 25 (.iconst 1) 1 := gx_dk (by decide +kernel)
theorem dX2_settle_26 : gx_d mX2_settle 26 (.iadd) 1 := gx_dk (by decide +kernel)
theorem dX2_settle_27 : gx_d mX2_settle 27 (.istore_n 3) 1 := gx_dk (by decide +kernel)
theorem dX2_settle_28 : gx_d mX2_settle 28 (.aload_n 0) 1 := gx_dk (by decide +kernel)
theorem dX2_settle_29 : gx_d mX2_settle 29 (.iload_n 2) 1 := gx_dk (by decide +kernel)
theorem dX2_settle_30 : gx_d mX2_settle 30 (.iconst 3) 1 := gx_dk (by decide +kernel)
theorem dX2_settle_31 : gx_d mX2_settle 31 (.iload_n 3) 1 := gx_dk (by decide +kernel)
theorem dX2_settle_32 : gx_d mX2_settle 32 (.getstatic 79) 3 := gx_dk (by decide +kernel)
theorem dX2_settle_35 : gx_d mX2_settle 35 (.iconst 3) 1 := gx_dk (by decide +kernel)
theorem dX2_settle_36 : gx_d mX2_settle 36 (.iaload) 1 := gx_dk (by decide +kernel)
theorem dX2_settle_37 : gx_d mX2_settle 37 (.invokestatic 42) 3 := gx_dk (by decide +kernel)
theorem dX2_settle_40 : gx_d mX2_settle 40 (.invokevirtual 27) 3 := gx_dk (by decide +kernel)
theorem dX2_settle_43 : gx_d mX2_settle 43 (.iinc 2 1) 3 := gx_dk (by decide +kernel)
theorem dX2_settle_46 : gx_d mX2_settle 46 (.goto (-44)) 3 := gx_dk (by decide +kernel)
theorem dX2_settle_49 : gx_d mX2_settle 49 (.return_) 1 := gx_dk (by decide +kernel)
def isCr (w : gx_W) (r a : Nat) : Prop := w.1[r]? = some (2, 0) ∧ w_r w r 0 = some a ∧ w.1[a]? = some (20, 28)
def isCn (w : gx_W) (r a n : Nat) : Prop := isCr w r a ∧ w_i w r 1 = nI n ∧ n ≤ 6
theorem isCr.same {R : List Nat} {F : List (Nat × Nat)} {w w' : gx_W} {r a : Nat} (h : isCr w r a) (hs : same R F w w') : isCr w' r a := by
  unfold isCr at h ⊢
  rw [hs.1, hs.2.2.1]
  exact h
theorem isCn.same {R : List Nat} {F : List (Nat × Nat)} {w w' : gx_W} {r a n : Nat} (h : isCn w r a n) (hs : same R F w w') (hF : (r, 1) ∉ F) : isCn w' r a n := ⟨h.1.same hs, (hs.2.1 r 1 hF).trans h.2.1, h.2.2⟩
theorem pI_add4 (q : Nat) : (24 : Int32) + nI q - 4 = nI (20 + q) := by
  have e : (24 : Int32) - 4 = nI 20 := by decide
  rw [Int32.add_comm, Int32.sub_eq_add_neg, Int32.add_assoc, ← Int32.sub_eq_add_neg, e, Int32.add_comm, nI_add]
theorem pI_m6 (q m : Nat) : nI q * 6 + nI m = nI (q * 6 + m) := by
  have e : (6 : Int32) = nI 6 := by decide
  rw [e, pk_mul, nI_add]
/-- an int below a small number, by cases -/
theorem pI_cases {x : Int32} {n : Nat} (hn : n < 2 ^ 31) (h0 : ¬ x < 0) (h1 : x < nI n) : ∃ m, m < n ∧ x = nI m := by
  rw [pI_lt, nI_toInt hn] at h1
  exact pI_ex h0 (by omega)
theorem c_X2_isRoad {d : Nat} {w : gx_W} {r a n : Nat} {x : Int32} {k : Int32 → gx_W → Prop} (hd : 0 ≤ d) (h : isCn w r a n) (kt : ∀ m, x = nI m → m < n → k 1 w) (kf : (∀ m, m < n → x ≠ nI m) → k 0 w) : gx_C 0 0 d mX2_isRoad [.ref r, .int x] w (Qi k) := by
  refine gx_C_of' (L := [.ref r, .int x]) (by decide +kernel) rfl (Nat.le_of_ble_eq_true rfl) ?_
  refine g_iload_n dX2_isRoad_0 rfl ?_
  refine g_if_lt (tgt := 16) dX2_isRoad_1 (by decide) (fun zc1 => ?_) (fun zc1 => ?_)
  · refine g_iconst (v := 0) dX2_isRoad_16 rfl ?_
    refine g_zret dX2_isRoad_17 rfl (Or.inl rfl) ⟨_, rfl, ?_⟩
    refine kf (fun m hm e => ?_)
    have hb := h.2.2
    first
      | (rw [e] at zc1; exact absurd zc1 (nI_pos (by omega)))
      | (have c := zc9
         rw [h.2.1, e] at c
         exact absurd c (nI_ge hm (by omega)))
  · refine g_iload_n dX2_isRoad_4 rfl ?_
    refine g_aload_n dX2_isRoad_5 rfl ?_
    refine g_geti dX2_isRoad_6 fl_X2_19 h.1.1 ?_
    refine g_icmp_ge (tgt := 16) dX2_isRoad_9 (by decide) (fun zc9 => ?_) (fun zc9 => ?_)
    · refine g_iconst (v := 0) dX2_isRoad_16 rfl ?_
      refine g_zret dX2_isRoad_17 rfl (Or.inl rfl) ⟨_, rfl, ?_⟩
      refine kf (fun m hm e => ?_)
      have hb := h.2.2
      first
        | (rw [e] at zc1; exact absurd zc1 (nI_pos (by omega)))
        | (have c := zc9
           rw [h.2.1, e] at c
           exact absurd c (nI_ge hm (by omega)))
    · refine g_iconst (v := 1) dX2_isRoad_12 rfl ?_
      refine g_goto (tgt := 17) dX2_isRoad_13 (by decide) ?_
      refine g_zret dX2_isRoad_17 rfl (Or.inr rfl) ⟨_, rfl, ?_⟩
      have zc9' : x < nI n := by
        have c := zc9
        rw [h.2.1] at c
        exact Int32.not_le.mp c
      obtain ⟨m, h1, h2⟩ := pI_cases (by have := h.2.2; omega) (by simpa using zc1) zc9'
      exact kt m h2 h1
theorem c_X2_isFull {d : Nat} {w : gx_W} {r a n : Nat} {k : Int32 → gx_W → Prop} (hd : 0 ≤ d) (h : isCn w r a n) (kt : n = 6 → k 1 w) (kf : n < 6 → k 0 w) : gx_C 0 0 d mX2_isFull [.ref r] w (Qi k) := by
  refine gx_C_of' (L := [.ref r]) (by decide +kernel) rfl (Nat.le_of_ble_eq_true rfl) ?_
  refine g_aload_n dX2_isFull_0 rfl ?_
  refine g_geti dX2_isFull_1 fl_X2_19 h.1.1 ?_
  refine g_bipush (v := 6) dX2_isFull_4 rfl ?_
  refine g_icmp_lt (tgt := 13) dX2_isFull_6 (by decide) (fun zc6 => ?_) (fun zc6 => ?_)
  · refine g_iconst (v := 0) dX2_isFull_13 rfl ?_
    refine g_zret dX2_isFull_14 rfl (Or.inl rfl) ⟨_, rfl, ?_⟩
    have hb := h.2.2
    have c := zc6
    rw [h.2.1, pI_lt, nI_toInt (by omega)] at c
    have e : (6 : Int32).toInt = 6 := by decide
    exact kf (by omega)
  · refine g_iconst (v := 1) dX2_isFull_9 rfl ?_
    refine g_goto (tgt := 14) dX2_isFull_10 (by decide) ?_
    refine g_zret dX2_isFull_14 rfl (Or.inr rfl) ⟨_, rfl, ?_⟩
    have hb := h.2.2
    have c := zc6
    rw [h.2.1] at c
    refine kt ?_
    rcases Nat.lt_or_ge n 6 with q | q
    · exact absurd (nI_lt q (b := 6) (by decide)) c
    · omega
theorem c_X2_allRoads {d : Nat} {w : gx_W} {r a n : Nat} {k : Int32 → gx_W → Prop} (hd : 0 ≤ d) (h : isCn w r a n) (kk : k (nI (2 ^ n - 1)) w) : gx_C 0 0 d mX2_allRoads [.ref r] w (Qi k) := by
  refine gx_C_of' (L := [.ref r]) (by decide +kernel) rfl (Nat.le_of_ble_eq_true rfl) ?_
  refine g_iconst (v := 1) dX2_allRoads_0 rfl ?_
  refine g_aload_n dX2_allRoads_1 rfl ?_
  refine g_geti dX2_allRoads_2 fl_X2_19 h.1.1 ?_
  refine g_ishl dX2_allRoads_5 ?_
  refine g_iconst (v := 1) dX2_allRoads_6 rfl ?_
  refine g_isub dX2_allRoads_7 ?_
  refine g_iret dX2_allRoads_8 rfl ⟨_, rfl, ?_⟩
  have hb := h.2.2
  have e : (1 : Int32) <<< (w_i w r 1 &&& 31) - 1 = nI (2 ^ n - 1) := by
    rw [h.2.1]
    match n, hb with
    | 0, _ => decide
    | 1, _ => decide
    | 2, _ => decide
    | 3, _ => decide
    | 4, _ => decide
    | 5, _ => decide
    | 6, _ => decide
    | z + 7, hz => exact absurd hz (by omega)
  rw [e]
  exact kk
theorem c_X2_placeOf {d : Nat} {w : gx_W} {r a n : Nat} {x y : Int32} {k : Int32 → gx_W → Prop} (hd : 0 ≤ d) (h : isCn w r a n) (h1 : ∀ q m : Nat, y = nI q → x = nI m → q < 4 → m < n → k (nI (q * 6 + m)) w) (h2 : ∀ q : Nat, y = nI q → x = 0 → 4 ≤ q → q < 8 → k (nI (20 + q)) w) (h3 : (∀ q m : Nat, q < 4 → m < n → y = nI q → x = nI m → False) → (∀ q : Nat, 4 ≤ q → q < 8 → y = nI q → x = 0 → False) → k (-1) w) : gx_C 0 0 d mX2_placeOf [.ref r, .int x, .int y] w (Qi k) := by
  refine gx_C_of' (L := [.ref r, .int x, .int y]) (by decide +kernel) rfl (Nat.le_of_ble_eq_true rfl) ?_
  refine g_iload_n dX2_placeOf_0 rfl ?_
  refine g_iconst (v := 4) dX2_placeOf_1 rfl ?_
  refine g_icmp_lt (tgt := 26) dX2_placeOf_2 (by decide) (fun zc2 => ?_) (fun zc2 => ?_)
  · have hb := h.2.2
    have b4 : y.toInt < 4 := by
      have c := zc2
      rw [pI_lt] at c
      have e : (4 : Int32).toInt = 4 := by decide
      omega
    refine g_iload_n dX2_placeOf_26 rfl ?_
    refine g_if_lt (tgt := 51) dX2_placeOf_27 (by decide) (fun zc27 => ?_) (fun zc27 => ?_)
    · refine g_iconst (v := -1) dX2_placeOf_51 rfl ?_
      refine g_iret dX2_placeOf_52 rfl ⟨_, rfl, ?_⟩
      have e0 : (0 : Int32).toInt = 0 := by decide
      refine h3 (fun q m hq hm e1 e2 => ?_) (fun q hq1 hq2 e1 e2 => ?_)
      · first
          | (rw [e1, nI_toInt (by omega)] at b4; omega)
          | (rw [e1] at zc27; exact absurd zc27 (nI_pos (by omega)))
          | (rw [e2] at zc31; exact absurd zc31 (nI_pos (by omega)))
          | (have c := zc39
             rw [h.2.1, e2] at c
             exact absurd c (nI_ge hm (by omega)))
      · first
          | (rw [e1, nI_toInt (by omega)] at b4; omega)
          | (have c : 7 < y := zc8
             rw [e1] at c
             rw [pI_lt, nI_toInt (by omega)] at c
             have e : (7 : Int32).toInt = 7 := by decide
             omega)
          | exact zc12 e2
    · refine g_iload_n dX2_placeOf_30 rfl ?_
      refine g_if_lt (tgt := 51) dX2_placeOf_31 (by decide) (fun zc31 => ?_) (fun zc31 => ?_)
      · refine g_iconst (v := -1) dX2_placeOf_51 rfl ?_
        refine g_iret dX2_placeOf_52 rfl ⟨_, rfl, ?_⟩
        have e0 : (0 : Int32).toInt = 0 := by decide
        refine h3 (fun q m hq hm e1 e2 => ?_) (fun q hq1 hq2 e1 e2 => ?_)
        · first
            | (rw [e1, nI_toInt (by omega)] at b4; omega)
            | (rw [e1] at zc27; exact absurd zc27 (nI_pos (by omega)))
            | (rw [e2] at zc31; exact absurd zc31 (nI_pos (by omega)))
            | (have c := zc39
               rw [h.2.1, e2] at c
               exact absurd c (nI_ge hm (by omega)))
        · first
            | (rw [e1, nI_toInt (by omega)] at b4; omega)
            | (have c : 7 < y := zc8
               rw [e1] at c
               rw [pI_lt, nI_toInt (by omega)] at c
               have e : (7 : Int32).toInt = 7 := by decide
               omega)
            | exact zc12 e2
      · refine g_iload_n dX2_placeOf_34 rfl ?_
        refine g_aload_n dX2_placeOf_35 rfl ?_
        refine g_geti dX2_placeOf_36 fl_X2_19 h.1.1 ?_
        refine g_icmp_ge (tgt := 51) dX2_placeOf_39 (by decide) (fun zc39 => ?_) (fun zc39 => ?_)
        · refine g_iconst (v := -1) dX2_placeOf_51 rfl ?_
          refine g_iret dX2_placeOf_52 rfl ⟨_, rfl, ?_⟩
          have e0 : (0 : Int32).toInt = 0 := by decide
          refine h3 (fun q m hq hm e1 e2 => ?_) (fun q hq1 hq2 e1 e2 => ?_)
          · first
              | (rw [e1, nI_toInt (by omega)] at b4; omega)
              | (rw [e1] at zc27; exact absurd zc27 (nI_pos (by omega)))
              | (rw [e2] at zc31; exact absurd zc31 (nI_pos (by omega)))
              | (have c := zc39
                 rw [h.2.1, e2] at c
                 exact absurd c (nI_ge hm (by omega)))
          · first
              | (rw [e1, nI_toInt (by omega)] at b4; omega)
              | (have c : 7 < y := zc8
                 rw [e1] at c
                 rw [pI_lt, nI_toInt (by omega)] at c
                 have e : (7 : Int32).toInt = 7 := by decide
                 omega)
              | exact zc12 e2
        · refine g_iload_n dX2_placeOf_42 rfl ?_
          refine g_bipush (v := 6) dX2_placeOf_43 rfl ?_
          refine g_imul dX2_placeOf_45 ?_
          refine g_iload_n dX2_placeOf_46 rfl ?_
          refine g_iadd dX2_placeOf_47 ?_
          refine g_goto (tgt := 52) dX2_placeOf_48 (by decide) ?_
          refine g_iret dX2_placeOf_52 rfl ⟨_, rfl, ?_⟩
          have zc27' : ¬ y < 0 := by simpa using zc27
          have zc31' : ¬ x < 0 := by simpa using zc31
          have zc39' : x < nI n := by
            have c := zc39
            rw [h.2.1] at c
            exact Int32.not_le.mp c
          obtain ⟨m, m1, m2⟩ := pI_cases (by omega) zc31' zc39'
          obtain ⟨q, q1, q2⟩ := pI_ex (n := 4) zc27' (by omega)
          rw [q2, m2, pI_m6]
          exact h1 q m q2 m2 q1 m1
  · have hb := h.2.2
    have b4 : 4 ≤ y.toInt := by
      have c := zc2
      rw [pI_lt] at c
      have e : (4 : Int32).toInt = 4 := by decide
      omega
    refine g_iload_n dX2_placeOf_5 rfl ?_
    refine g_bipush (v := 7) dX2_placeOf_6 rfl ?_
    refine g_icmp_gt (tgt := 24) dX2_placeOf_8 (by decide) (fun zc8 => ?_) (fun zc8 => ?_)
    · refine g_iconst (v := -1) dX2_placeOf_24 rfl ?_
      refine g_iret dX2_placeOf_25 rfl ⟨_, rfl, ?_⟩
      have e0 : (0 : Int32).toInt = 0 := by decide
      refine h3 (fun q m hq hm e1 e2 => ?_) (fun q hq1 hq2 e1 e2 => ?_)
      · first
          | (rw [e1, nI_toInt (by omega)] at b4; omega)
          | (rw [e1] at zc27; exact absurd zc27 (nI_pos (by omega)))
          | (rw [e2] at zc31; exact absurd zc31 (nI_pos (by omega)))
          | (have c := zc39
             rw [h.2.1, e2] at c
             exact absurd c (nI_ge hm (by omega)))
      · first
          | (rw [e1, nI_toInt (by omega)] at b4; omega)
          | (have c : 7 < y := zc8
             rw [e1] at c
             rw [pI_lt, nI_toInt (by omega)] at c
             have e : (7 : Int32).toInt = 7 := by decide
             omega)
          | exact zc12 e2
    · refine g_iload_n dX2_placeOf_11 rfl ?_
      refine g_if_ne (tgt := 24) dX2_placeOf_12 (by decide) (fun zc12 => ?_) (fun zc12 => ?_)
      · refine g_iconst (v := -1) dX2_placeOf_24 rfl ?_
        refine g_iret dX2_placeOf_25 rfl ⟨_, rfl, ?_⟩
        have e0 : (0 : Int32).toInt = 0 := by decide
        refine h3 (fun q m hq hm e1 e2 => ?_) (fun q hq1 hq2 e1 e2 => ?_)
        · first
            | (rw [e1, nI_toInt (by omega)] at b4; omega)
            | (rw [e1] at zc27; exact absurd zc27 (nI_pos (by omega)))
            | (rw [e2] at zc31; exact absurd zc31 (nI_pos (by omega)))
            | (have c := zc39
               rw [h.2.1, e2] at c
               exact absurd c (nI_ge hm (by omega)))
        · first
            | (rw [e1, nI_toInt (by omega)] at b4; omega)
            | (have c : 7 < y := zc8
               rw [e1] at c
               rw [pI_lt, nI_toInt (by omega)] at c
               have e : (7 : Int32).toInt = 7 := by decide
               omega)
            | exact zc12 e2
      · refine g_bipush (v := 24) dX2_placeOf_15 rfl ?_
        refine g_iload_n dX2_placeOf_17 rfl ?_
        refine g_iadd dX2_placeOf_18 ?_
        refine g_iconst (v := 4) dX2_placeOf_19 rfl ?_
        refine g_isub dX2_placeOf_20 ?_
        refine g_goto (tgt := 25) dX2_placeOf_21 (by decide) ?_
        refine g_iret dX2_placeOf_25 rfl ⟨_, rfl, ?_⟩
        have b7 : y.toInt ≤ 7 := by
          have c : ¬ 7 < y := zc8
          rw [pI_lt] at c
          have e : (7 : Int32).toInt = 7 := by decide
          omega
        have ey := pI_nat (i := y) (by omega)
        have ex : x = 0 := by simpa using zc12
        have K := h2 y.toInt.toNat ey ex (by omega) (by omega)
        rw [ey, pI_add4]
        exact K
theorem c_X2_number {d : Nat} {w : gx_W} {r a n : Nat} {x y : Int32} {k : Int32 → gx_W → Prop} (hd : 1 ≤ d) (h : isCn w r a n) (h1 : ∀ q m : Nat, y = nI q → x = nI m → q < 4 → m < n → k (w_a w a (q * 6 + m)) w) (h2 : ∀ q : Nat, y = nI q → x = 0 → 4 ≤ q → q < 8 → k (w_a w a (20 + q)) w) (h3 : (∀ q m : Nat, q < 4 → m < n → y = nI q → x = nI m → False) → (∀ q : Nat, 4 ≤ q → q < 8 → y = nI q → x = 0 → False) → k (-2000000000) w) : gx_C 0 0 d mX2_number [.ref r, .int x, .int y] w (Qi k) := by
  refine gx_C_of' (L := [.ref r, .int x, .int y, .retAddr 0]) (by decide +kernel) rfl (Nat.le_of_ble_eq_true rfl) ?_
  refine g_aload_n dX2_number_0 rfl ?_
  refine g_iload_n dX2_number_1 rfl ?_
  refine g_iload_n dX2_number_2 rfl ?_
  refine g_cV2i dX2_number_3 ml_X2_31 mi_X2_placeOf mv_X2_placeOf h.1.1 ⟨_, rfl, rfl⟩ (Nat.le_of_ble_eq_true rfl) rfl (by omega) ?_
  refine c_X2_placeOf (by omega) h (fun q m e1 e2 hq hm => ?_) (fun q e1 e2 hq1 hq2 => ?_) (fun n1 n2 => ?_)
  · have hb := h.2.2
    refine g_istore_n dX2_number_6 (Nat.le_of_ble_eq_true rfl) rfl ?_
    refine g_iload_n dX2_number_7 rfl ?_
    refine g_if_lt (tgt := 26) dX2_number_8 (by decide) (fun zc8 => ?_) (fun zc8 => ?_)
    · refine g_ldc dX2_number_26 ct_X2_35 ?_
      refine g_iret dX2_number_28 rfl ⟨_, rfl, ?_⟩
      exact absurd zc8 (nI_pos (by omega))
    · refine g_iload_n dX2_number_11 rfl ?_
      refine g_bipush (v := 28) dX2_number_12 rfl ?_
      refine g_icmp_ge (tgt := 26) dX2_number_14 (by decide) (fun zc14 => ?_) (fun zc14 => ?_)
      · refine g_ldc dX2_number_26 ct_X2_35 ?_
        refine g_iret dX2_number_28 rfl ⟨_, rfl, ?_⟩
        exact absurd zc14 (nI_ge (b := 28) (by omega) (by decide))
      · refine g_aload_n dX2_number_17 rfl ?_
        refine g_getr dX2_number_18 fl_X2_11 h.1.1 h.1.2.1 ?_
        refine g_iload_n dX2_number_21 rfl ?_
        refine g_iald dX2_number_22 h.1.2.2 (vp_in_nI (by omega) (by omega)) ?_
        refine g_goto (tgt := 28) dX2_number_23 (by decide) ?_
        refine g_iret dX2_number_28 rfl ⟨_, rfl, ?_⟩
        rw [nI_n (by omega)]
        exact h1 q m e1 e2 hq hm
  · have hb := h.2.2
    refine g_istore_n dX2_number_6 (Nat.le_of_ble_eq_true rfl) rfl ?_
    refine g_iload_n dX2_number_7 rfl ?_
    refine g_if_lt (tgt := 26) dX2_number_8 (by decide) (fun zc8 => ?_) (fun zc8 => ?_)
    · refine g_ldc dX2_number_26 ct_X2_35 ?_
      refine g_iret dX2_number_28 rfl ⟨_, rfl, ?_⟩
      exact absurd zc8 (nI_pos (by omega))
    · refine g_iload_n dX2_number_11 rfl ?_
      refine g_bipush (v := 28) dX2_number_12 rfl ?_
      refine g_icmp_ge (tgt := 26) dX2_number_14 (by decide) (fun zc14 => ?_) (fun zc14 => ?_)
      · refine g_ldc dX2_number_26 ct_X2_35 ?_
        refine g_iret dX2_number_28 rfl ⟨_, rfl, ?_⟩
        exact absurd zc14 (nI_ge (b := 28) (by omega) (by decide))
      · refine g_aload_n dX2_number_17 rfl ?_
        refine g_getr dX2_number_18 fl_X2_11 h.1.1 h.1.2.1 ?_
        refine g_iload_n dX2_number_21 rfl ?_
        refine g_iald dX2_number_22 h.1.2.2 (vp_in_nI (by omega) (by omega)) ?_
        refine g_goto (tgt := 28) dX2_number_23 (by decide) ?_
        refine g_iret dX2_number_28 rfl ⟨_, rfl, ?_⟩
        rw [nI_n (by omega)]
        exact h2 q e1 e2 hq1 hq2
  · have hb := h.2.2
    refine g_istore_n dX2_number_6 (Nat.le_of_ble_eq_true rfl) rfl ?_
    refine g_iload_n dX2_number_7 rfl ?_
    refine g_if_lt (tgt := 26) dX2_number_8 (by decide) (fun _ => ?_) (fun q => absurd q (by decide))
    refine g_ldc dX2_number_26 ct_X2_35 ?_
    refine g_iret dX2_number_28 rfl ⟨_, rfl, ?_⟩
    exact h3 n1 n2
theorem c_number_r {d : Nat} {w : gx_W} {r a n q m : Nat} {x y : Int32} {k : Int32 → gx_W → Prop} (hd : 1 ≤ d) (h : isCn w r a n) (hq : q < 4) (hm : m < n) (ey : y = nI q) (ex : x = nI m) (kk : k (w_a w a (q * 6 + m)) w) : gx_C 0 0 d mX2_number [.ref r, .int x, .int y] w (Qi k) := by
  have hb := h.2.2
  refine c_X2_number hd h (fun q' m' e1 e2 _ _ => ?_) (fun q' e1 e2 h4 h8 => ?_) (fun n1 n2 => (n1 q m hq hm ey ex).elim)
  · rw [← pI_inj (a := q) (b := q') (by omega) (by omega) (ey.symm.trans e1), ← pI_inj (a := m) (b := m') (by omega) (by omega) (ex.symm.trans e2)]
    exact kk
  · have := pI_inj (a := q) (b := q') (by omega) (by omega) (ey.symm.trans e1)
    omega
theorem c_number_g {d : Nat} {w : gx_W} {r a n q : Nat} {y : Int32} {k : Int32 → gx_W → Prop} (hd : 1 ≤ d) (h : isCn w r a n) (h4 : 4 ≤ q) (h8 : q < 8) (ey : y = nI q) (kk : k (w_a w a (20 + q)) w) : gx_C 0 0 d mX2_number [.ref r, .int 0, .int y] w (Qi k) := by
  refine c_X2_number hd h (fun q' m' e1 e2 hq _ => ?_) (fun q' e1 e2 h4' h8' => ?_) (fun n1 n2 => (n2 q h4 h8 ey rfl).elim)
  · have := pI_inj (a := q) (b := q') (by omega) (by omega) (ey.symm.trans e1)
    omega
  · rw [← pI_inj (a := q) (b := q') (by omega) (by omega) (ey.symm.trans e1)]
    exact kk
theorem c_X2_become {d : Nat} {w : gx_W} {r a n : Nat} {x y v : Int32} {k : gx_W → Prop} (hd : 1 ≤ d) (h : isCn w r a n) (h1 : ∀ q m : Nat, y = nI q → x = nI m → q < 4 → m < n → k (s_a w a (va_up (w_a w a) (q * 6 + m) v))) (h2 : ∀ q : Nat, y = nI q → x = 0 → 4 ≤ q → q < 8 → k (s_a w a (va_up (w_a w a) (20 + q) v))) (h3 : (∀ q m : Nat, q < 4 → m < n → y = nI q → x = nI m → False) → (∀ q : Nat, 4 ≤ q → q < 8 → y = nI q → x = 0 → False) → k w) : gx_C 0 0 d mX2_become [.ref r, .int x, .int y, .int v] w (Qv k) := by
  refine gx_C_of' (L := [.ref r, .int x, .int y, .int v, .retAddr 0]) (by decide +kernel) rfl (Nat.le_of_ble_eq_true rfl) ?_
  refine g_aload_n dX2_become_0 rfl ?_
  refine g_iload_n dX2_become_1 rfl ?_
  refine g_iload_n dX2_become_2 rfl ?_
  refine g_cV2i dX2_become_3 ml_X2_31 mi_X2_placeOf mv_X2_placeOf h.1.1 ⟨_, rfl, rfl⟩ (Nat.le_of_ble_eq_true rfl) rfl (by omega) ?_
  refine c_X2_placeOf (by omega) h (fun q m e1 e2 hq hm => ?_) (fun q e1 e2 hq1 hq2 => ?_) (fun n1 n2 => ?_)
  · have hb := h.2.2
    refine g_istore dX2_become_6 (Nat.le_of_ble_eq_true rfl) rfl ?_
    refine g_iload dX2_become_8 rfl ?_
    refine g_if_lt (tgt := 28) dX2_become_10 (by decide) (fun zc10 => ?_) (fun zc10 => ?_)
    · refine g_vret dX2_become_28 rfl ⟨rfl, ?_⟩
      exact absurd zc10 (nI_pos (by omega))
    · refine g_iload dX2_become_13 rfl ?_
      refine g_bipush (v := 28) dX2_become_15 rfl ?_
      refine g_icmp_ge (tgt := 28) dX2_become_17 (by decide) (fun zc17 => ?_) (fun zc17 => ?_)
      · refine g_vret dX2_become_28 rfl ⟨rfl, ?_⟩
        exact absurd zc17 (nI_ge (b := 28) (by omega) (by decide))
      · refine g_aload_n dX2_become_20 rfl ?_
        refine g_getr dX2_become_21 fl_X2_11 h.1.1 h.1.2.1 ?_
        refine g_iload dX2_become_24 rfl ?_
        refine g_iload_n dX2_become_26 rfl ?_
        refine g_iast dX2_become_27 h.1.2.2 (vp_in_nI (by omega) (by omega)) ?_
        refine g_vret dX2_become_28 rfl ⟨rfl, ?_⟩
        rw [nI_n (by omega)]
        exact h1 q m e1 e2 hq hm
  · have hb := h.2.2
    refine g_istore dX2_become_6 (Nat.le_of_ble_eq_true rfl) rfl ?_
    refine g_iload dX2_become_8 rfl ?_
    refine g_if_lt (tgt := 28) dX2_become_10 (by decide) (fun zc10 => ?_) (fun zc10 => ?_)
    · refine g_vret dX2_become_28 rfl ⟨rfl, ?_⟩
      exact absurd zc10 (nI_pos (by omega))
    · refine g_iload dX2_become_13 rfl ?_
      refine g_bipush (v := 28) dX2_become_15 rfl ?_
      refine g_icmp_ge (tgt := 28) dX2_become_17 (by decide) (fun zc17 => ?_) (fun zc17 => ?_)
      · refine g_vret dX2_become_28 rfl ⟨rfl, ?_⟩
        exact absurd zc17 (nI_ge (b := 28) (by omega) (by decide))
      · refine g_aload_n dX2_become_20 rfl ?_
        refine g_getr dX2_become_21 fl_X2_11 h.1.1 h.1.2.1 ?_
        refine g_iload dX2_become_24 rfl ?_
        refine g_iload_n dX2_become_26 rfl ?_
        refine g_iast dX2_become_27 h.1.2.2 (vp_in_nI (by omega) (by omega)) ?_
        refine g_vret dX2_become_28 rfl ⟨rfl, ?_⟩
        rw [nI_n (by omega)]
        exact h2 q e1 e2 hq1 hq2
  · have hb := h.2.2
    refine g_istore dX2_become_6 (Nat.le_of_ble_eq_true rfl) rfl ?_
    refine g_iload dX2_become_8 rfl ?_
    refine g_if_lt (tgt := 28) dX2_become_10 (by decide) (fun _ => ?_) (fun q => absurd q (by decide))
    refine g_vret dX2_become_28 rfl ⟨rfl, ?_⟩
    exact h3 n1 n2
theorem c_become_r {d : Nat} {w : gx_W} {r a n q m : Nat} {x y v : Int32} {k : gx_W → Prop} (hd : 1 ≤ d) (h : isCn w r a n) (hq : q < 4) (hm : m < n) (ey : y = nI q) (ex : x = nI m) (kk : k (s_a w a (va_up (w_a w a) (q * 6 + m) v))) : gx_C 0 0 d mX2_become [.ref r, .int x, .int y, .int v] w (Qv k) := by
  have hb := h.2.2
  refine c_X2_become hd h (fun q' m' e1 e2 _ _ => ?_) (fun q' e1 e2 h4 h8 => ?_) (fun n1 n2 => (n1 q m hq hm ey ex).elim)
  · rw [← pI_inj (a := q) (b := q') (by omega) (by omega) (ey.symm.trans e1), ← pI_inj (a := m) (b := m') (by omega) (by omega) (ex.symm.trans e2)]
    exact kk
  · have := pI_inj (a := q) (b := q') (by omega) (by omega) (ey.symm.trans e1)
    omega
