/-! Shelf, and the JDK methods that are reached -/
theorem dX5_init_0 : gx_d mX5_init 0 (.aload_n 0) 1 := gx_dk (by decide +kernel)
theorem dX5_init_1 : gx_d mX5_init 1 (.invokespecial 3) 3 := gx_dk (by decide +kernel)
theorem dX5_init_4 : gx_d mX5_init 4 (.aload_n 0) 1 := gx_dk (by decide +kernel)
theorem dX5_init_5 : gx_d mX5_init 5 (.bipush 60) 2 := gx_dk (by decide +kernel)
theorem dX5_init_7 : gx_d mX5_init 7 (.newarray .long) 2 := gx_dk (by decide +kernel)
theorem dX5_init_9 : gx_d mX5_init 9 (.putfield 9) 3 := gx_dk (by decide +kernel)
theorem dX5_init_12 : gx_d mX5_init 12 (.return_) 1 := gx_dk (by decide +kernel)
theorem dX5_holdsNothing_0 : gx_d mX5_holdsNothing 0 (.aload_n 0) 1 := gx_dk (by decide +kernel)
theorem dX5_holdsNothing_1 : gx_d mX5_holdsNothing 1 (.getfield 15) 3 := gx_dk (by decide +kernel)
theorem dX5_holdsNothing_4 : gx_d mX5_holdsNothing 4 (.ifCond .ne 7) 3 := gx_dk (by decide +kernel)
theorem dX5_holdsNothing_7 : gx_d mX5_holdsNothing 7 (.iconst 1) 1 := gx_dk (by decide +kernel)
theorem dX5_holdsNothing_8 : gx_d mX5_holdsNothing 8 (.goto 4) 3 := gx_dk (by decide +kernel)
theorem dX5_holdsNothing_11 : gx_d mX5_holdsNothing 11 (.iconst 0) 1 := gx_dk (by decide +kernel)
theorem dX5_holdsNothing_12 : gx_d mX5_holdsNothing 12 (.ireturn) 1 := gx_dk (by decide +kernel)
theorem dX5_holdsRow_0 : gx_d mX5_holdsRow 0 (.aload_n 0) 1 := gx_dk (by decide +kernel)
theorem dX5_holdsRow_1 : gx_d mX5_holdsRow 1 (.getfield 15) 3 := gx_dk (by decide +kernel)
theorem dX5_holdsRow_4 : gx_d mX5_holdsRow 4 (.iconst 2) 1 := gx_dk (by decide +kernel)
theorem dX5_holdsRow_5 : gx_d mX5_holdsRow 5 (.if_icmp .ne 7) 3 := gx_dk (by decide +kernel)
theorem dX5_holdsRow_8 : gx_d mX5_holdsRow 8 (.iconst 1) 1 := gx_dk (by decide +kernel)
theorem dX5_holdsRow_9 : gx_d mX5_holdsRow 9 (.goto 4) 3 := gx_dk (by decide +kernel)
theorem dX5_holdsRow_12 : gx_d mX5_holdsRow 12 (.iconst 0) 1 := gx_dk (by decide +kernel)
theorem dX5_holdsRow_13 : gx_d mX5_holdsRow 13 (.ireturn) 1 := gx_dk (by decide +kernel)
theorem dX5_holdsBytes_0 : gx_d mX5_holdsBytes 0 (.aload_n 0) 1 := gx_dk (by decide +kernel)
theorem dX5_holdsBytes_1 : gx_d mX5_holdsBytes 1 (.getfield 15) 3 := gx_dk (by decide +kernel)
theorem dX5_holdsBytes_4 : gx_d mX5_holdsBytes 4 (.iconst 2) 1 := gx_dk (by decide +kernel)
theorem dX5_holdsBytes_5 : gx_d mX5_holdsBytes 5 (.if_icmp .ne 14) 3 := gx_dk (by decide +kernel)
theorem dX5_holdsBytes_8 : gx_d mX5_holdsBytes 8 (.aload_n 0) 1 := gx_dk (by decide +kernel)
theorem dX5_holdsBytes_9 : gx_d mX5_holdsBytes 9 (.getfield 19) 3 := gx_dk (by decide +kernel)
theorem dX5_holdsBytes_12 : gx_d mX5_holdsBytes 12 (.ifCond .ne 7) 3 := gx_dk (by decide +kernel)
theorem dX5_holdsBytes_15 : gx_d mX5_holdsBytes 15 (.iconst 1) 1 := gx_dk (by decide +kernel)
theorem dX5_holdsBytes_16 : gx_d mX5_holdsBytes 16 (.goto 4) 3 := gx_dk (by decide +kernel)
theorem dX5_holdsBytes_19 : gx_d mX5_holdsBytes 19 (.iconst 0) 1 := gx_dk (by decide +kernel)
theorem dX5_holdsBytes_20 : gx_d mX5_holdsBytes 20 (.ireturn) 1 := gx_dk (by decide +kernel)
theorem dX5_holdNothing_0 : gx_d mX5_holdNothing 0 (.aload_n 0) 1 := gx_dk (by decide +kernel)
theorem dX5_holdNothing_1 : gx_d mX5_holdNothing 1 (.iconst 0) 1 := gx_dk (by decide +kernel)
theorem dX5_holdNothing_2 : gx_d mX5_holdNothing 2 (.putfield 15) 3 := gx_dk (by decide +kernel)
theorem dX5_holdNothing_5 : gx_d mX5_holdNothing 5 (.aload_n 0) 1 := gx_dk (by decide +kernel)
theorem dX5_holdNothing_6 : gx_d mX5_holdNothing 6 (.iconst 0) 1 := gx_dk (by decide +kernel)
theorem dX5_holdNothing_7 : gx_d mX5_holdNothing 7 (.putfield 22) 3 := gx_dk (by decide +kernel)
theorem dX5_holdNothing_10 : gx_d mX5_holdNothing 10 (.return_) 1 := gx_dk (by decide +kernel)
theorem dX5_holdBody_0 : gx_d mX5_holdBody 0 (.aload_n 0) 1 := gx_dk (by decide +kernel)
theorem dX5_holdBody_1 : gx_d mX5_holdBody 1 (.iconst 1) 1 := gx_dk (by decide +kernel)
theorem dX5_holdBody_2 : gx_d mX5_holdBody 2 (.putfield 15) 3 := gx_dk (by decide +kernel)
theorem dX5_holdBody_5 : gx_d mX5_holdBody 5 (.aload_n 0) 1 := gx_dk (by decide +kernel)
theorem dX5_holdBody_6 : gx_d mX5_holdBody 6 (.iload_n 1) 1 := gx_dk (by decide +kernel)
theorem dX5_holdBody_7 : gx_d mX5_holdBody 7 (.putfield 25) 3 := gx_dk (by decide +kernel)
theorem dX5_holdBody_10 : gx_d mX5_holdBody 10 (.aload_n 0) 1 := gx_dk (by decide +kernel)
theorem dX5_holdBody_11 : gx_d mX5_holdBody 11 (.iconst 0) 1 := gx_dk (by decide +kernel)
theorem dX5_holdBody_12 : gx_d mX5_holdBody 12 (.putfield 22) 3 := gx_dk (by decide +kernel)
theorem dX5_holdBody_15 : gx_d mX5_holdBody 15 (.return_) 1 := gx_dk (by decide +kernel)
theorem dX5_holdRow_0 : gx_d mX5_holdRow 0 (.aload_n 0) 1 := gx_dk (by decide +kernel)
theorem dX5_holdRow_1 : gx_d mX5_holdRow 1 (.iconst 2) 1 := gx_dk (by decide +kernel)
theorem dX5_holdRow_2 : gx_d mX5_holdRow 2 (.putfield 15) 3 := gx_dk (by decide +kernel)
theorem dX5_holdRow_5 : gx_d mX5_holdRow 5 (.aload_n 0) 1 := gx_dk (by decide +kernel)
theorem dX5_holdRow_6 : gx_d mX5_holdRow 6 (.iload_n 1) 1 := gx_dk (by decide +kernel)
theorem dX5_holdRow_7 : gx_d mX5_holdRow 7 (.putfield 19) 3 := gx_dk (by decide +kernel)
theorem dX5_holdRow_10 : gx_d mX5_holdRow 10 (.aload_n 0) 1 := gx_dk (by decide +kernel)
theorem dX5_holdRow_11 : gx_d mX5_holdRow 11 (.iconst 0) 1 := gx_dk (by decide +kernel)
theorem dX5_holdRow_12 : gx_d mX5_holdRow 12 (.iload_n 2) 1 := gx_dk (by decide +kernel)
theorem dX5_holdRow_13 : gx_d mX5_holdRow 13 (.bipush 60) 2 := gx_dk (by decide +kernel)
theorem dX5_holdRow_15 : gx_d mX5_holdRow 15 (.invokestatic 28) 3 := gx_dk (by decide +kernel)
theorem dX5_holdRow_18 : gx_d mX5_holdRow 18 (.invokestatic 34) 3 := gx_dk (by decide +kernel)
theorem dX5_holdRow_21 : gx_d mX5_holdRow 21 (.putfield 22) 3 := gx_dk (by decide +kernel)
theorem dX5_holdRow_24 : gx_d mX5_holdRow 24 (.aload_n 0) 1 := gx_dk (by decide +kernel)
theorem dX5_holdRow_25 : gx_d mX5_holdRow 25 (.getfield 9) 3 := gx_dk (by decide +kernel)
theorem dX5_holdRow_28 : gx_d mX5_holdRow 28 (.lconst 0) 1 := gx_dk (by decide +kernel)
theorem dX5_holdRow_29 : gx_d mX5_holdRow 29 (.invokestatic 37) 3 := gx_dk (by decide +kernel)
theorem dX5_holdRow_32 : gx_d mX5_holdRow 32 (.return_) 1 := gx_dk (by decide +kernel)
theorem dX5_hasRoom_0 : gx_d mX5_hasRoom 0 (.iload_n 1) 1 := gx_dk (by decide +kernel)
theorem dX5_hasRoom_1 : gx_d mX5_hasRoom 1 (.ifCond .lt 21) 3 := gx_dk (by decide +kernel)
theorem dX5_hasRoom_4 : gx_d mX5_hasRoom 4 (.iload_n 2) 1 := gx_dk (by decide +kernel)
theorem dX5_hasRoom_5 : gx_d mX5_hasRoom 5 (.ifCond .lt 17) 3 := gx_dk (by decide +kernel)
theorem dX5_hasRoom_8 : gx_d mX5_hasRoom 8 (.iload_n 1) 1 := gx_dk (by decide +kernel)
theorem dX5_hasRoom_9 : gx_d mX5_hasRoom 9 (.aload_n 0) 1 := gx_dk (by decide +kernel)
theorem dX5_hasRoom_10 : gx_d mX5_hasRoom 10 (.getfield 22) 3 := gx_dk (by decide +kernel)
theorem dX5_hasRoom_13 : gx_d mX5_hasRoom 13 (.iload_n 2) 1 := gx_dk (by decide +kernel)
theorem dX5_hasRoom_14 : gx_d mX5_hasRoom 14 (.isub) 1 := gx_dk (by decide +kernel)
theorem dX5_hasRoom_15 : gx_d mX5_hasRoom 15 (.if_icmp .gt 7) 3 := gx_dk (by decide +kernel)
theorem dX5_hasRoom_18 : gx_d mX5_hasRoom 18 (.iconst 1) 1 := gx_dk (by decide +kernel)
theorem dX5_hasRoom_19 : gx_d mX5_hasRoom 19 (.goto 4) 3 := gx_dk (by decide +kernel)
theorem dX5_hasRoom_22 : gx_d mX5_hasRoom 22 (.iconst 0) 1 := gx_dk (by decide +kernel)
theorem dX5_hasRoom_23 : gx_d mX5_hasRoom 23 (.ireturn) 1 := gx_dk (by decide +kernel)
theorem dX5_valueAt_0 : gx_d mX5_valueAt 0 (.aload_n 0) 1 := gx_dk (by decide +kernel)
theorem dX5_valueAt_1 : gx_d mX5_valueAt 1 (.iload_n 1) 1 := gx_dk (by decide +kernel)
theorem dX5_valueAt_2 : gx_d mX5_valueAt 2 (.iconst 1) 1 := gx_dk (by decide +kernel)
theorem dX5_valueAt_3 : gx_d mX5_valueAt 3 (.invokevirtual 43) 3 := gx_dk (by decide +kernel)
theorem dX5_valueAt_6 : gx_d mX5_valueAt 6 (.ifCond .eq 12) 3 := gx_dk (by decide +kernel)
theorem dX5_valueAt_9 : gx_d mX5_valueAt 9 (.aload_n 0) 1 := gx_dk (by decide +kernel)
theorem dX5_valueAt_10 : gx_d mX5_valueAt 10 (.getfield 9) 3 := gx_dk (by decide +kernel)
theorem dX5_valueAt_13 : gx_d mX5_valueAt 13 (.iload_n 1) 1 := gx_dk (by decide +kernel)
theorem dX5_valueAt_14 : gx_d mX5_valueAt 14 (.laload) 1 := gx_dk (by decide +kernel)
theorem dX5_valueAt_15 : gx_d mX5_valueAt 15 (.goto 4) 3 := gx_dk (by decide +kernel)
theorem dX5_valueAt_18 : gx_d mX5_valueAt 18 (.lconst 0) 1 := gx_dk (by decide +kernel)
theorem dX5_valueAt_19 : gx_d mX5_valueAt 19 (.lreturn) 1 := gx_dk (by decide +kernel)
theorem dX5_small_0 : gx_d mX5_small 0 (.aload_n 0) 1 := gx_dk (by decide +kernel)
theorem dX5_small_1 : gx_d mX5_small 1 (.iload_n 1) 1 := gx_dk (by decide +kernel)
theorem dX5_small_2 : gx_d mX5_small 2 (.invokevirtual 47) 3 := gx_dk (by decide +kernel)
theorem dX5_small_5 : gx_d mX5_small 5 (.l2i) 1 := gx_dk (by decide +kernel)
theorem dX5_small_6 : gx_d mX5_small 6 (.ireturn) 1 := gx_dk (by decide +kernel)
theorem dX5_write_0 : gx_d mX5_write 0 (.aload_n 0) 1 := gx_dk (by decide +kernel)
theorem dX5_write_1 : gx_d mX5_write 1 (.iload_n 1) 1 := gx_dk (by decide +kernel)
theorem dX5_write_2 : gx_d mX5_write 2 (.iconst 1) 1 := gx_dk (by decide +kernel)
theorem dX5_write_3 : gx_d mX5_write 3 (.invokevirtual 43) 3 := gx_dk (by decide +kernel)
theorem dX5_write_6 : gx_d mX5_write 6 (.ifCond .eq 14) 3 := gx_dk (by decide +kernel)
theorem dX5_write_9 : gx_d mX5_write 9 (.aload_n 0) 1 := gx_dk (by decide +kernel)
theorem dX5_write_10 : gx_d mX5_write 10 (.getfield 9) 3 := gx_dk (by decide +kernel)
theorem dX5_write_13 : gx_d mX5_write 13 (.iload_n 1) 1 := gx_dk (by decide +kernel)
theorem dX5_write_14 : gx_d mX5_write 14 (.aload_n 0) 1 := gx_dk (by decide +kernel)
theorem dX5_write_15 : gx_d mX5_write 15 (.lload_n 2) 1 := gx_dk (by decide +kernel)
theorem dX5_write_16 : gx_d mX5_write 16 (.invokevirtual 51) 3 := gx_dk (by decide +kernel)
theorem dX5_write_19 : gx_d mX5_write 19 (.lastore) 1 := gx_dk (by decide +kernel)
theorem dX5_write_20 : gx_d mX5_write 20 (.return_) 1 := gx_dk (by decide +kernel)
theorem dX5_narrowed_0 : gx_d mX5_narrowed 0 (.aload_n 0) 1 := gx_dk (by decide +kernel)
theorem dX5_narrowed_1 : gx_d mX5_narrowed 1 (.getfield 19) 3 := gx_dk (by decide +kernel)
theorem dX5_narrowed_4 : gx_d mX5_narrowed 4 (.tableswitch 48 0 3 #[32, 37, 42, 46]) 32 := gx_dk (by decide +kernel)
theorem dX5_narrowed_36 : gx_d mX5_narrowed 36 (.lload_n 1) 1 := gx_dk (by decide +kernel)
theorem dX5_narrowed_37 : gx_d mX5_narrowed 37 (.l2i) 1 := gx_dk (by decide +kernel)
theorem dX5_narrowed_38 : gx_d mX5_narrowed 38 (.i2b) 1 := gx_dk (by decide +kernel)
theorem dX5_narrowed_39 : gx_d mX5_narrowed 39 (.i2l) 1 := gx_dk (by decide +kernel)
theorem dX5_narrowed_40 : gx_d mX5_narrowed 40 (.lreturn) 1 := gx_dk (by decide +kernel)
theorem dX5_narrowed_41 : gx_d mX5_narrowed 41 (.lload_n 1) 1 := gx_dk (by decide +kernel)
theorem dX5_narrowed_42 : gx_d mX5_narrowed 42 (.l2i) 1 := gx_dk (by decide +kernel)
theorem dX5_narrowed_43 : gx_d mX5_narrowed 43 (.i2s) 1 := gx_dk (by decide +kernel)
theorem dX5_narrowed_44 : gx_d mX5_narrowed 44 (.i2l) 1 := gx_dk (by decide +kernel)
theorem dX5_narrowed_45 : gx_d mX5_narrowed 45 (.lreturn) 1 := gx_dk (by decide +kernel)
theorem dX5_narrowed_46 : gx_d mX5_narrowed 46 (.lload_n 1) 1 := gx_dk (by decide +kernel)
theorem dX5_narrowed_47 : gx_d mX5_narrowed 47 (.l2i) 1 := gx_dk (by decide +kernel)
theorem dX5_narrowed_48 : gx_d mX5_narrowed 48 (.i2l) 1 := gx_dk (by decide +kernel)
theorem dX5_narrowed_49 : gx_d mX5_narrowed 49 (.lreturn) 1 := gx_dk (by decide +kernel)
theorem dX5_narrowed_50 : gx_d mX5_narrowed 50 (.lload_n 1) 1 := gx_dk (by decide +kernel)
theorem dX5_narrowed_51 : gx_d mX5_narrowed 51 (.lreturn) 1 := gx_dk (by decide +kernel)
theorem dX5_narrowed_52 : gx_d mX5_narrowed 52 (.lload_n 1) 1 := gx_dk (by decide +kernel)
theorem dX5_narrowed_53 : gx_d mX5_narrowed 53 (.lconst 0) 1 := gx_dk (by decide +kernel)
theorem dX5_narrowed_54 : gx_d mX5_narrowed 54 (.lcmp) 1 := gx_dk (by decide +kernel)
theorem dX5_narrowed_55 : gx_d mX5_narrowed 55 (.ifCond .eq 7) 3 := gx_dk (by decide +kernel)
theorem dX5_narrowed_58 : gx_d mX5_narrowed 58 (.lconst 1) 1 := gx_dk (by decide +kernel)
theorem dX5_narrowed_59 : gx_d mX5_narrowed 59 (.goto 4) 3 := gx_dk (by decide +kernel)
theorem dX5_narrowed_62 : gx_d mX5_narrowed 62 (.lconst 0) 1 := gx_dk (by decide +kernel)
theorem dX5_narrowed_63 : gx_d mX5_narrowed 63 (.lreturn) 1 := gx_dk (by decide +kernel)
theorem dX5_comers_0 : gx_d mX5_comers 0 (.iconst 0) 1 := gx_dk (by decide +kernel)
theorem dX5_comers_1 : gx_d mX5_comers 1 (.istore_n 2) 1 := gx_dk (by decide +kernel)
theorem dX5_comers_2 : gx_d mX5_comers 2 (.iload_n 2) 1 := gx_dk (by decide +kernel)
theorem dX5_comers_3 : gx_d mX5_comers 3 (.iload_n 1) 1 := gx_dk (by decide +kernel)
theorem dX5_comers_4 : gx_d mX5_comers 4 (.if_icmp .ge 29) 3 := gx_dk (by decide +kernel)
theorem dX5_comers_7 : gx_d mX5_comers 7 (.aload_n 0) 1 := gx_dk (by decide +kernel)
theorem dX5_comers_8 : gx_d mX5_comers 8 (.iload_n 2) 1 := gx_dk (by decide +kernel)
theorem dX5_comers_9 : gx_d mX5_comers 9 (.iconst 1) 1 := gx_dk (by decide +kernel)
theorem dX5_comers_10 : gx_d mX5_comers 10 (.invokevirtual 43) 3 := gx_dk (by decide +kernel)
theorem dX5_comers_13 : gx_d mX5_comers 13 (.ifCond .eq 20) 3 := gx_dk (by decide +kernel)
theorem dX5_comers_16 : gx_d mX5_comers 16 (.aload_n 0) 1 := gx_dk (by decide +kernel)
theorem dX5_comers_17 : gx_d mX5_comers 17 (.iload_n 2) 1 := gx_dk (by decide +kernel)
theorem dX5_comers_18 : gx_d mX5_comers 18 (.invokevirtual 55) 3 := gx_dk (by decide +kernel)
theorem dX5_comers_21 : gx_d mX5_comers 21 (.invokestatic 59) 3 := gx_dk (by decide +kernel)
theorem dX5_comers_24 : gx_d mX5_comers 24 (.ifCond .eq 9) 3 := gx_dk (by decide +kernel)
theorem dX5_comers_27 : gx_d mX5_comers 27 (.iinc 2 1) 3 := gx_dk (by decide +kernel)
theorem dX5_comers_30 : gx_d mX5_comers 30 (.goto (-28)) 3 := gx_dk (by decide +kernel)
theorem dX5_comers_33 : gx_d mX5_comers 33 (.iload_n 2) 1 := gx_dk (by decide +kernel)
theorem dX5_comers_34 : gx_d mX5_comers 34 (.ireturn) 1 := gx_dk (by decide +kernel)
theorem dJ6_bitCount_0f7a4_0 : gx_d mJ6_bitCount_0f7a4 0 (.iload_n 0) 1 := gx_dk (by decide +kernel)
theorem dJ6_bitCount_0f7a4_1 : gx_d mJ6_bitCount_0f7a4 1 (.iload_n 0) 1 := gx_dk (by decide +kernel)
theorem dJ6_bitCount_0f7a4_2 : gx_d mJ6_bitCount_0f7a4 2 (.iconst 1) 1 := gx_dk (by decide +kernel)
theorem dJ6_bitCount_0f7a4_3 : gx_d mJ6_bitCount_0f7a4 3 (.iushr) 1 := gx_dk (by decide +kernel)
theorem dJ6_bitCount_0f7a4_4 : gx_d mJ6_bitCount_0f7a4 4 (.ldc_w 265) 3 := gx_dk (by decide +kernel)
theorem dJ6_bitCount_0f7a4_7 : gx_d mJ6_bitCount_0f7a4 7 (.iand) 1 := gx_dk (by decide +kernel)
theorem dJ6_bitCount_0f7a4_8 : gx_d mJ6_bitCount_0f7a4 8 (.isub) 1 := gx_dk (by decide +kernel)
theorem dJ6_bitCount_0f7a4_9 : gx_d mJ6_bitCount_0f7a4 9 (.istore_n 0) 1 := gx_dk (by decide +kernel)
theorem dJ6_bitCount_0f7a4_10 : gx_d mJ6_bitCount_0f7a4 10 (.iload_n 0) 1 := gx_dk (by decide +kernel)
theorem dJ6_bitCount_0f7a4_11 : gx_d mJ6_bitCount_0f7a4 11 (.ldc_w 266) 3 := gx_dk (by decide +kernel)
theorem dJ6_bitCount_0f7a4_14 : gx_d mJ6_bitCount_0f7a4 14 (.iand) 1 := gx_dk (by decide +kernel)
theorem dJ6_bitCount_0f7a4_15 : gx_d mJ6_bitCount_0f7a4 15 (.iload_n 0) 1 := gx_dk (by decide +kernel)
theorem dJ6_bitCount_0f7a4_16 : gx_d mJ6_bitCount_0f7a4 16 (.iconst 2) 1 := gx_dk (by decide +kernel)
theorem dJ6_bitCount_0f7a4_17 : gx_d mJ6_bitCount_0f7a4 17 (.iushr) 1 := gx_dk (by decide +kernel)
theorem dJ6_bitCount_0f7a4_18 : gx_d mJ6_bitCount_0f7a4 18 (.ldc_w 266) 3 := gx_dk (by decide +kernel)
theorem dJ6_bitCount_0f7a4_21 : gx_d mJ6_bitCount_0f7a4 21 (.iand) 1 := gx_dk (by decide +kernel)
theorem dJ6_bitCount_0f7a4_22 : gx_d mJ6_bitCount_0f7a4 22 (.iadd) 1 := gx_dk (by decide +kernel)
theorem dJ6_bitCount_0f7a4_23 : gx_d mJ6_bitCount_0f7a4 23 (.istore_n 0) 1 := gx_dk (by decide +kernel)
theorem dJ6_bitCount_0f7a4_24 : gx_d mJ6_bitCount_0f7a4 24 (.iload_n 0) 1 := gx_dk (by decide +kernel)
theorem dJ6_bitCount_0f7a4_25 : gx_d mJ6_bitCount_0f7a4 25 (.iload_n 0) 1 := gx_dk (by decide +kernel)
theorem dJ6_bitCount_0f7a4_26 : gx_d mJ6_bitCount_0f7a4 26 (.iconst 4) 1 := gx_dk (by decide +kernel)
theorem dJ6_bitCount_0f7a4_27 : gx_d mJ6_bitCount_0f7a4 27 (.iushr) 1 := gx_dk (by decide +kernel)
theorem dJ6_bitCount_0f7a4_28 : gx_d mJ6_bitCount_0f7a4 28 (.iadd) 1 := gx_dk (by decide +kernel)
theorem dJ6_bitCount_0f7a4_29 : gx_d mJ6_bitCount_0f7a4 29 (.ldc_w 267) 3 := gx_dk (by decide +kernel)
theorem dJ6_bitCount_0f7a4_32 : gx_d mJ6_bitCount_0f7a4 32 (.iand) 1 := gx_dk (by decide +kernel)
theorem dJ6_bitCount_0f7a4_33 : gx_d mJ6_bitCount_0f7a4 33 (.istore_n 0) 1 := gx_dk (by decide +kernel)
theorem dJ6_bitCount_0f7a4_34 : gx_d mJ6_bitCount_0f7a4 34 (.iload_n 0) 1 := gx_dk (by decide +kernel)
theorem dJ6_bitCount_0f7a4_35 : gx_d mJ6_bitCount_0f7a4 35 (.iload_n 0) 1 := gx_dk (by decide +kernel)
theorem dJ6_bitCount_0f7a4_36 : gx_d mJ6_bitCount_0f7a4 36 (.bipush 8) 2 := gx_dk (by decide +kernel)
theorem dJ6_bitCount_0f7a4_38 : gx_d mJ6_bitCount_0f7a4 38 (.iushr) 1 := gx_dk (by decide +kernel)
theorem dJ6_bitCount_0f7a4_39 : gx_d mJ6_bitCount_0f7a4 39 (.iadd) 1 := gx_dk (by decide +kernel)
theorem dJ6_bitCount_0f7a4_40 : gx_d mJ6_bitCount_0f7a4 40 (.istore_n 0) 1 := gx_dk (by decide +kernel)
theorem dJ6_bitCount_0f7a4_41 : gx_d mJ6_bitCount_0f7a4 41 (.iload_n 0) 1 := gx_dk (by decide +kernel)
theorem dJ6_bitCount_0f7a4_42 : gx_d mJ6_bitCount_0f7a4 42 (.iload_n 0) 1 := gx_dk (by decide +kernel)
theorem dJ6_bitCount_0f7a4_43 : gx_d mJ6_bitCount_0f7a4 43 (.bipush 16) 2 := gx_dk (by decide +kernel)
theorem dJ6_bitCount_0f7a4_45 : gx_d mJ6_bitCount_0f7a4 45 (.iushr) 1 := gx_dk (by decide +kernel)
theorem dJ6_bitCount_0f7a4_46 : gx_d mJ6_bitCount_0f7a4 46 (.iadd) 1 := gx_dk (by decide +kernel)
theorem dJ6_bitCount_0f7a4_47 : gx_d mJ6_bitCount_0f7a4 47 (.istore_n 0) 1 := gx_dk (by decide +kernel)
theorem dJ6_bitCount_0f7a4_48 : gx_d mJ6_bitCount_0f7a4 48 (.iload_n 0) 1 := gx_dk (by decide +kernel)
theorem dJ6_bitCount_0f7a4_49 : gx_d mJ6_bitCount_0f7a4 49 (.bipush 63) 2 := gx_dk (by decide +kernel)
theorem dJ6_bitCount_0f7a4_51 : gx_d mJ6_bitCount_0f7a4 51 (.iand) 1 := gx_dk (by decide +kernel)
theorem dJ6_bitCount_0f7a4_52 : gx_d mJ6_bitCount_0f7a4 52 (.ireturn) 1 := gx_dk (by decide +kernel)
theorem dJ9_max_7cf53_0 : gx_d mJ9_max_7cf53 0 (.iload_n 0) 1 := gx_dk (by decide +kernel)
theorem dJ9_max_7cf53_1 : gx_d mJ9_max_7cf53 1 (.iload_n 1) 1 := gx_dk (by decide +kernel)
theorem dJ9_max_7cf53_2 : gx_d mJ9_max_7cf53 2 (.if_icmp .lt 7) 3 := gx_dk (by decide +kernel)
theorem dJ9_max_7cf53_5 : gx_d mJ9_max_7cf53 5 (.iload_n 0) 1 := gx_dk (by decide +kernel)
theorem dJ9_max_7cf53_6 : gx_d mJ9_max_7cf53 6 (.goto 4) 3 := gx_dk (by decide +kernel)
theorem dJ9_max_7cf53_9 : gx_d mJ9_max_7cf53 9 (.iload_n 1) 1 := gx_dk (by decide +kernel)
theorem dJ9_max_7cf53_10 : gx_d mJ9_max_7cf53 10 (.ireturn) 1 := gx_dk (by decide +kernel)
theorem dJ9_min_7cf53_0 : gx_d mJ9_min_7cf53 0 (.iload_n 0) 1 := gx_dk (by decide +kernel)
theorem dJ9_min_7cf53_1 : gx_d mJ9_min_7cf53 1 (.iload_n 1) 1 := gx_dk (by decide +kernel)
theorem dJ9_min_7cf53_2 : gx_d mJ9_min_7cf53 2 (.if_icmp .gt 7) 3 := gx_dk (by decide +kernel)
theorem dJ9_min_7cf53_5 : gx_d mJ9_min_7cf53 5 (.iload_n 0) 1 := gx_dk (by decide +kernel)
theorem dJ9_min_7cf53_6 : gx_d mJ9_min_7cf53 6 (.goto 4) 3 := gx_dk (by decide +kernel)
theorem dJ9_min_7cf53_9 : gx_d mJ9_min_7cf53 9 (.iload_n 1) 1 := gx_dk (by decide +kernel)
theorem dJ9_min_7cf53_10 : gx_d mJ9_min_7cf53 10 (.ireturn) 1 := gx_dk (by decide +kernel)
theorem dJ7_fill_d0a16_0 : gx_d mJ7_fill_d0a16 0 (.iconst 0) 1 := gx_dk (by decide +kernel)
theorem dJ7_fill_d0a16_1 : gx_d mJ7_fill_d0a16 1 (.istore_n 3) 1 := gx_dk (by decide +kernel)
theorem dJ7_fill_d0a16_2 : gx_d mJ7_fill_d0a16 2 (.aload_n 0) 1 := gx_dk (by decide +kernel)
theorem dJ7_fill_d0a16_3 : gx_d mJ7_fill_d0a16 3 (.arraylength) 1 := gx_dk (by decide +kernel)
theorem dJ7_fill_d0a16_4 : gx_d mJ7_fill_d0a16 4 (.istore 4) 2 := gx_dk (by decide +kernel)
theorem dJ7_fill_d0a16_6 : gx_d mJ7_fill_d0a16 6 (.iload_n 3) 1 := gx_dk (by decide +kernel)
theorem dJ7_fill_d0a16_7 : gx_d mJ7_fill_d0a16 7 (.iload 4) 2 := gx_dk (by decide +kernel)
theorem dJ7_fill_d0a16_9 : gx_d mJ7_fill_d0a16 9 (.if_icmp .ge 13) 3 := gx_dk (by decide +kernel)
theorem dJ7_fill_d0a16_12 : gx_d mJ7_fill_d0a16 12 (.aload_n 0) 1 := gx_dk (by decide +kernel)
theorem dJ7_fill_d0a16_13 : gx_d mJ7_fill_d0a16 13 (.iload_n 3) 1 := gx_dk (by decide +kernel)
theorem dJ7_fill_d0a16_14 : gx_d mJ7_fill_d0a16 14 (.lload_n 1) 1 := gx_dk (by decide +kernel)
theorem dJ7_fill_d0a16_15 : gx_d mJ7_fill_d0a16 15 (.lastore) 1 := gx_dk (by decide +kernel)
theorem dJ7_fill_d0a16_16 : gx_d mJ7_fill_d0a16 16 (.iinc 3 1) 3 := gx_dk (by decide +kernel)
theorem dJ7_fill_d0a16_19 : gx_d mJ7_fill_d0a16 19 (.goto (-13)) 3 := gx_dk (by decide +kernel)
theorem dJ7_fill_d0a16_22 : gx_d mJ7_fill_d0a16 22 (.return_) 1 := gx_dk (by decide +kernel)
theorem dJ7_fill_53178_0 : gx_d mJ7_fill_53178 0 (.iconst 0) 1 := gx_dk (by decide +kernel)
theorem dJ7_fill_53178_1 : gx_d mJ7_fill_53178 1 (.istore_n 2) 1 := gx_dk (by decide +kernel)
theorem dJ7_fill_53178_2 : gx_d mJ7_fill_53178 2 (.aload_n 0) 1 := gx_dk (by decide +kernel)
theorem dJ7_fill_53178_3 : gx_d mJ7_fill_53178 3 (.arraylength) 1 := gx_dk (by decide +kernel)
theorem dJ7_fill_53178_4 : gx_d mJ7_fill_53178 4 (.istore_n 3) 1 := gx_dk (by decide +kernel)
theorem dJ7_fill_53178_5 : gx_d mJ7_fill_53178 5 (.iload_n 2) 1 := gx_dk (by decide +kernel)
theorem dJ7_fill_53178_6 : gx_d mJ7_fill_53178 6 (.iload_n 3) 1 := gx_dk (by decide +kernel)
theorem dJ7_fill_53178_7 : gx_d mJ7_fill_53178 7 (.if_icmp .ge 13) 3 := gx_dk (by decide +kernel)
theorem dJ7_fill_53178_10 : gx_d mJ7_fill_53178 10 (.aload_n 0) 1 := gx_dk (by decide +kernel)
theorem dJ7_fill_53178_11 : gx_d mJ7_fill_53178 11 (.iload_n 2) 1 := gx_dk (by decide +kernel)
theorem dJ7_fill_53178_12 : gx_d mJ7_fill_53178 12 (.iload_n 1) 1 := gx_dk (by decide +kernel)
theorem dJ7_fill_53178_13 : gx_d mJ7_fill_53178 13 (.iastore) 1 := gx_dk (by decide +kernel)
theorem dJ7_fill_53178_14 : gx_d mJ7_fill_53178 14 (.iinc 2 1) 3 := gx_dk (by decide +kernel)
theorem dJ7_fill_53178_17 : gx_d mJ7_fill_53178 17 (.goto (-12)) 3 := gx_dk (by decide +kernel)
theorem dJ7_fill_53178_20 : gx_d mJ7_fill_53178 20 (.return_) 1 := gx_dk (by decide +kernel)
/-- a shelf: its object r, its row a of 60 longs -/
def isSh (w : gx_W) (r a : Nat) : Prop := w.1[r]? = some (5, 0) ∧ w_r w r 0 = some a ∧ w.1[a]? = some (23, 60)
theorem c_J9_max_7cf53 {d : Nat} (hd : 0 ≤ d) {w : gx_W} {a b : Int32} {k : Int32 → gx_W → Prop} (kk : k (if a < b then b else a) w) : gx_C 0 0 d mJ9_max_7cf53 [.int a, .int b] w (Qi k) := by
  refine gx_C_ofF (L := [.int a, .int b]) (by decide +kernel) rfl (Nat.le_of_ble_eq_true rfl) ?_
  refine g_iload_n dJ9_max_7cf53_0 rfl ?_
  refine g_iload_n dJ9_max_7cf53_1 rfl ?_
  refine g_icmp_lt (tgt := 9) dJ9_max_7cf53_2 (by decide) (fun c2 => ?_) (fun c2 => ?_)
  · refine g_iload_n dJ9_max_7cf53_9 rfl ?_
    refine g_iret dJ9_max_7cf53_10 rfl ⟨_, rfl, ?_⟩
    first | (rw [if_pos (by assumption)] at kk; exact kk) | (rw [if_neg (by first | assumption | exact Int32.not_lt.mpr (by assumption))] at kk; exact kk)
  · refine g_iload_n dJ9_max_7cf53_5 rfl ?_
    refine g_goto (tgt := 10) dJ9_max_7cf53_6 (by decide) ?_
    refine g_iret dJ9_max_7cf53_10 rfl ⟨_, rfl, ?_⟩
    first | (rw [if_pos (by assumption)] at kk; exact kk) | (rw [if_neg (by first | assumption | exact Int32.not_lt.mpr (by assumption))] at kk; exact kk)
theorem c_J9_min_7cf53 {d : Nat} (hd : 0 ≤ d) {w : gx_W} {a b : Int32} {k : Int32 → gx_W → Prop} (kk : k (if a > b then b else a) w) : gx_C 0 0 d mJ9_min_7cf53 [.int a, .int b] w (Qi k) := by
  refine gx_C_ofF (L := [.int a, .int b]) (by decide +kernel) rfl (Nat.le_of_ble_eq_true rfl) ?_
  refine g_iload_n dJ9_min_7cf53_0 rfl ?_
  refine g_iload_n dJ9_min_7cf53_1 rfl ?_
  refine g_icmp_gt (tgt := 9) dJ9_min_7cf53_2 (by decide) (fun c2 => ?_) (fun c2 => ?_)
  · refine g_iload_n dJ9_min_7cf53_9 rfl ?_
    refine g_iret dJ9_min_7cf53_10 rfl ⟨_, rfl, ?_⟩
    first | (rw [if_pos (by assumption)] at kk; exact kk) | (rw [if_neg (by first | assumption | exact Int32.not_lt.mpr (by assumption))] at kk; exact kk)
  · refine g_iload_n dJ9_min_7cf53_5 rfl ?_
    refine g_goto (tgt := 10) dJ9_min_7cf53_6 (by decide) ?_
    refine g_iret dJ9_min_7cf53_10 rfl ⟨_, rfl, ?_⟩
    first | (rw [if_pos (by assumption)] at kk; exact kk) | (rw [if_neg (by first | assumption | exact Int32.not_lt.mpr (by assumption))] at kk; exact kk)
theorem c_X5_holdsNothing {d : Nat} (hd : 0 ≤ d) {w : gx_W} {r a : Nat} (h : isSh w r a) {k : Int32 → gx_W → Prop} (kt : w_i w r 1 = 0 → k 1 w) (kf : ¬ w_i w r 1 = 0 → k 0 w) : gx_C 0 0 d mX5_holdsNothing [.ref r] w (Qi k) := by
  refine gx_C_of' (L := [.ref r]) (by decide +kernel) rfl (Nat.le_of_ble_eq_true rfl) ?_
  refine g_aload_n dX5_holdsNothing_0 rfl ?_
  refine g_geti dX5_holdsNothing_1 fl_X5_15 h.1 ?_
  refine g_if_ne (tgt := 11) dX5_holdsNothing_4 (by decide) (fun c4 => ?_) (fun c4 => ?_)
  · refine g_iconst (v := 0) dX5_holdsNothing_11 rfl ?_
    refine g_zret dX5_holdsNothing_12 rfl (Or.inl rfl) ⟨_, rfl, ?_⟩
    exact kf (by simpa using c4)
  · refine g_iconst (v := 1) dX5_holdsNothing_7 rfl ?_
    refine g_goto (tgt := 12) dX5_holdsNothing_8 (by decide) ?_
    refine g_zret dX5_holdsNothing_12 rfl (Or.inr rfl) ⟨_, rfl, ?_⟩
    exact kt (by simpa using c4)
theorem c_X5_holdsRow {d : Nat} (hd : 0 ≤ d) {w : gx_W} {r a : Nat} (h : isSh w r a) {k : Int32 → gx_W → Prop} (kt : w_i w r 1 = 2 → k 1 w) (kf : ¬ w_i w r 1 = 2 → k 0 w) : gx_C 0 0 d mX5_holdsRow [.ref r] w (Qi k) := by
  refine gx_C_of' (L := [.ref r]) (by decide +kernel) rfl (Nat.le_of_ble_eq_true rfl) ?_
  refine g_aload_n dX5_holdsRow_0 rfl ?_
  refine g_geti dX5_holdsRow_1 fl_X5_15 h.1 ?_
  refine g_iconst (v := 2) dX5_holdsRow_4 rfl ?_
  refine g_icmp_ne (tgt := 12) dX5_holdsRow_5 (by decide) (fun c5 => ?_) (fun c5 => ?_)
  · refine g_iconst (v := 0) dX5_holdsRow_12 rfl ?_
    refine g_zret dX5_holdsRow_13 rfl (Or.inl rfl) ⟨_, rfl, ?_⟩
    exact kf (by simpa using c5)
  · refine g_iconst (v := 1) dX5_holdsRow_8 rfl ?_
    refine g_goto (tgt := 13) dX5_holdsRow_9 (by decide) ?_
    refine g_zret dX5_holdsRow_13 rfl (Or.inr rfl) ⟨_, rfl, ?_⟩
    exact kt (by simpa using c5)
theorem c_X5_holdsBytes {d : Nat} (hd : 0 ≤ d) {w : gx_W} {r a : Nat} (h : isSh w r a) {k : Int32 → gx_W → Prop} (kt : w_i w r 1 = 2 → w_i w r 3 = 0 → k 1 w) (kf : ¬ (w_i w r 1 = 2 ∧ w_i w r 3 = 0) → k 0 w) : gx_C 0 0 d mX5_holdsBytes [.ref r] w (Qi k) := by
  refine gx_C_of' (L := [.ref r]) (by decide +kernel) rfl (Nat.le_of_ble_eq_true rfl) ?_
  refine g_aload_n dX5_holdsBytes_0 rfl ?_
  refine g_geti dX5_holdsBytes_1 fl_X5_15 h.1 ?_
  refine g_iconst (v := 2) dX5_holdsBytes_4 rfl ?_
  refine g_icmp_ne (tgt := 19) dX5_holdsBytes_5 (by decide) (fun c5 => ?_) (fun c5 => ?_)
  · refine g_iconst (v := 0) dX5_holdsBytes_19 rfl ?_
    refine g_zret dX5_holdsBytes_20 rfl (Or.inl rfl) ⟨_, rfl, ?_⟩
    exact kf (fun q => by simp_all)
  · refine g_aload_n dX5_holdsBytes_8 rfl ?_
    refine g_geti dX5_holdsBytes_9 fl_X5_19 h.1 ?_
    refine g_if_ne (tgt := 19) dX5_holdsBytes_12 (by decide) (fun c12 => ?_) (fun c12 => ?_)
    · refine g_iconst (v := 0) dX5_holdsBytes_19 rfl ?_
      refine g_zret dX5_holdsBytes_20 rfl (Or.inl rfl) ⟨_, rfl, ?_⟩
      exact kf (fun q => by simp_all)
    · refine g_iconst (v := 1) dX5_holdsBytes_15 rfl ?_
      refine g_goto (tgt := 20) dX5_holdsBytes_16 (by decide) ?_
      refine g_zret dX5_holdsBytes_20 rfl (Or.inr rfl) ⟨_, rfl, ?_⟩
      exact kt (by simpa using c5) (by simpa using c12)
theorem c_X5_holdNothing {d : Nat} (hd : 0 ≤ d) {w : gx_W} {r a : Nat} (h : isSh w r a) {k : gx_W → Prop} (kk : k (s_i (s_i w r 1 0) r 4 0)) : gx_C 0 0 d mX5_holdNothing [.ref r] w (Qv k) := by
  refine gx_C_of' (L := [.ref r]) (by decide +kernel) rfl (Nat.le_of_ble_eq_true rfl) ?_
  refine g_aload_n dX5_holdNothing_0 rfl ?_
  refine g_iconst (v := 0) dX5_holdNothing_1 rfl ?_
  refine g_puti dX5_holdNothing_2 fl_X5_15 ft_5_1 h.1 ?_
  refine g_aload_n dX5_holdNothing_5 rfl ?_
  refine g_iconst (v := 0) dX5_holdNothing_6 rfl ?_
  refine g_puti dX5_holdNothing_7 fl_X5_22 ft_5_4 h.1 ?_
  refine g_vret dX5_holdNothing_10 rfl ⟨rfl, ?_⟩
  exact kk
theorem c_X5_holdBody {d : Nat} (hd : 0 ≤ d) {w : gx_W} {r a : Nat} (h : isSh w r a) {v : Int32} {k : gx_W → Prop} (kk : k (s_i (s_i (s_i w r 1 1) r 2 v) r 4 0)) : gx_C 0 0 d mX5_holdBody [.ref r, .int v] w (Qv k) := by
  refine gx_C_of' (L := [.ref r, .int v]) (by decide +kernel) rfl (Nat.le_of_ble_eq_true rfl) ?_
  refine g_aload_n dX5_holdBody_0 rfl ?_
  refine g_iconst (v := 1) dX5_holdBody_1 rfl ?_
  refine g_puti dX5_holdBody_2 fl_X5_15 ft_5_1 h.1 ?_
  refine g_aload_n dX5_holdBody_5 rfl ?_
  refine g_iload_n dX5_holdBody_6 rfl ?_
  refine g_puti dX5_holdBody_7 fl_X5_25 ft_5_2 h.1 ?_
  refine g_aload_n dX5_holdBody_10 rfl ?_
  refine g_iconst (v := 0) dX5_holdBody_11 rfl ?_
  refine g_puti dX5_holdBody_12 fl_X5_22 ft_5_4 h.1 ?_
  refine g_vret dX5_holdBody_15 rfl ⟨rfl, ?_⟩
  exact kk
theorem c_X5_hasRoom {d : Nat} (hd : 0 ≤ d) {w : gx_W} {r a : Nat} (h : isSh w r a) {i n : Int32} {k : Int32 → gx_W → Prop} (kt : ¬ i < 0 → ¬ n < 0 → ¬ i > w_i w r 4 - n → k 1 w) (kf : i < 0 ∨ n < 0 ∨ i > w_i w r 4 - n → k 0 w) : gx_C 0 0 d mX5_hasRoom [.ref r, .int i, .int n] w (Qi k) := by
  refine gx_C_of' (L := [.ref r, .int i, .int n]) (by decide +kernel) rfl (Nat.le_of_ble_eq_true rfl) ?_
  refine g_iload_n dX5_hasRoom_0 rfl ?_
  refine g_if_lt (tgt := 22) dX5_hasRoom_1 (by decide) (fun c1 => ?_) (fun c1 => ?_)
  · refine g_iconst (v := 0) dX5_hasRoom_22 rfl ?_
    refine g_zret dX5_hasRoom_23 rfl (Or.inl rfl) ⟨_, rfl, ?_⟩
    first | exact kf (.inl c1) | exact kf (.inr (.inl c5)) | exact kf (.inr (.inr c15))
  · refine g_iload_n dX5_hasRoom_4 rfl ?_
    refine g_if_lt (tgt := 22) dX5_hasRoom_5 (by decide) (fun c5 => ?_) (fun c5 => ?_)
    · refine g_iconst (v := 0) dX5_hasRoom_22 rfl ?_
      refine g_zret dX5_hasRoom_23 rfl (Or.inl rfl) ⟨_, rfl, ?_⟩
      first | exact kf (.inl c1) | exact kf (.inr (.inl c5)) | exact kf (.inr (.inr c15))
    · refine g_iload_n dX5_hasRoom_8 rfl ?_
      refine g_aload_n dX5_hasRoom_9 rfl ?_
      refine g_geti dX5_hasRoom_10 fl_X5_22 h.1 ?_
      refine g_iload_n dX5_hasRoom_13 rfl ?_
      refine g_isub dX5_hasRoom_14 ?_
      refine g_icmp_gt (tgt := 22) dX5_hasRoom_15 (by decide) (fun c15 => ?_) (fun c15 => ?_)
      · refine g_iconst (v := 0) dX5_hasRoom_22 rfl ?_
        refine g_zret dX5_hasRoom_23 rfl (Or.inl rfl) ⟨_, rfl, ?_⟩
        first | exact kf (.inl c1) | exact kf (.inr (.inl c5)) | exact kf (.inr (.inr c15))
      · refine g_iconst (v := 1) dX5_hasRoom_18 rfl ?_
        refine g_goto (tgt := 23) dX5_hasRoom_19 (by decide) ?_
        refine g_zret dX5_hasRoom_23 rfl (Or.inr rfl) ⟨_, rfl, ?_⟩
        exact kt (by simpa using c1) (by simpa using c5) (by simpa using c15)
