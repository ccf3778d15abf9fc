/-! Shelf, and the JDK methods that are reached -/
theorem dX5_init_0 : gx_d mX5_init 0 (.aload_n 0) 1 := gx_dk (by decide +kernel)
theorem dX5_init_1 : gx_d mX5_init 1 (.invokespecial 3) 3 := gx_dk (by decide +kernel)
theorem dX5_init_4 : gx_d mX5_init 4 (.aload_n 0) 1 := gx_dk (by decide +kernel)
theorem dX5_init_5 : gx_d mX5_init 5 (.bipush 60) 2 := gx_dk (by decide +kernel)
theorem dX5_init_7 : gx_d mX5_init 7 (.newarray .long) 2 := gx_dk (by decide +kernel)
theorem dX5_init_9 : gx_d mX5_init 9 (.putfield 9) 3 := gx_dk (by decide +kernel)
theorem dX5_init_12 : gx_d mX5_init 12 (.return_) 1 := gx_dk (by decide +kernel)
theorem dX5_holdsNothing_0 : gx_d mX5_holdsNothing 0 (.aload_n 0) 1 := gx_dk (by decide +kernel)
theorem dX5_holdsNothing_1 : gx_d mX5_holdsNothing 1 (.getfield 15) 3 := gx_dk (by decide +kernel)
theorem dX5_holdsNothing_4 : gx_d mX5_holdsNothing 4 (.ifCond .ne 7) 3 := gx_dk (by decide +kernel)
theorem dX5_holdsNothing_7 : gx_d mX5_holdsNothing 7 (.iconst 1) 1 := gx_dk (by decide +kernel)
theorem dX5_holdsNothing_8 : gx_d mX5_holdsNothing 8 (.goto 4) 3 := gx_dk (by decide +kernel)
theorem dX5_holdsNothing_11 : gx_d mX5_holdsNothing 11 (.iconst 0) 1 := gx_dk (by decide +kernel)
theorem dX5_holdsNothing_12 : gx_d mX5_holdsNothing 12 (.ireturn) 1 := gx_dk (by decide +kernel)
theorem dX5_holdsRow_0 : gx_d mX5_holdsRow 0 (.aload_n 0) 1 := gx_dk (by decide +kernel)
theorem dX5_holdsRow_1 : gx_d mX5_holdsRow 1 (.getfield 15) 3 := gx_dk (by decide +kernel)
theorem dX5_holdsRow_4 : gx_d mX5_holdsRow 4 (.iconst 2) 1 := gx_dk (by decide +kernel)
theorem dX5_holdsRow_5 : gx_d mX5_holdsRow 5 (.if_icmp .ne 7) 3 := gx_dk (by decide +kernel)
theorem dX5_holdsRow_8 : gx_d mX5_holdsRow 8 (.iconst 1) 1 := gx_dk (by decide +kernel)
theorem dX5_holdsRow_9 : gx_d mX5_holdsRow 9 (.goto 4) 3 := gx_dk (by decide +kernel)
theorem dX5_holdsRow_12 : gx_d mX5_holdsRow 12 (.iconst 0) 1 := gx_dk (by decide +kernel)
theorem dX5_holdsRow_13 : gx_d mX5_holdsRow 13 (.ireturn) 1 := gx_dk (by decide +kernel)
theorem dX5_holdsBytes_0 : gx_d mX5_holdsBytes 0 (.aload_n 0) 1 := gx_dk (by decide +kernel)
theorem dX5_holdsBytes_1 : gx_d mX5_holdsBytes 1 (.getfield 15) 3 := gx_dk (by decide +kernel)
theorem dX5_holdsBytes_4 : gx_d mX5_holdsBytes 4 (.iconst 2) 1 := gx_dk (by decide +kernel)
theorem dX5_holdsBytes_5 : gx_d mX5_holdsBytes 5 (.if_icmp .ne 14) 3 := gx_dk (by decide +kernel)
theorem dX5_holdsBytes_8 : gx_d mX5_holdsBytes 8 (.aload_n 0) 1 := gx_dk (by decide +kernel)
theorem dX5_holdsBytes_9 : gx_d mX5_holdsBytes 9 (.getfield 19) 3 := gx_dk (by decide +kernel)
theorem dX5_holdsBytes_12 : gx_d mX5_holdsBytes 12 (.ifCond .ne 7) 3 := gx_dk (by decide +kernel)
theorem dX5_holdsBytes_15 : gx_d mX5_holdsBytes 15 (.iconst 1) 1 := gx_dk (by decide +kernel)
theorem dX5_holdsBytes_16 : gx_d mX5_holdsBytes 16 (.goto 4) 3 := gx_dk (by decide +kernel)
theorem dX5_holdsBytes_19 : gx_d mX5_holdsBytes 19 (.iconst 0) 1 := gx_dk (by decide +kernel)
theorem dX5_holdsBytes_20 : gx_d mX5_holdsBytes 20 (.ireturn) 1 := gx_dk (by decide +kernel)
theorem dX5_holdNothing_0 : gx_d mX5_holdNothing 0 (.aload_n 0) 1 := gx_dk (by decide +kernel)
theorem dX5_holdNothing_1 : gx_d mX5_holdNothing 1 (.iconst 0) 1 := gx_dk (by decide +kernel)
theorem dX5_holdNothing_2 : gx_d mX5_holdNothing 2 (.putfield 15) 3 := gx_dk (by decide +kernel)
theorem dX5_holdNothing_5 : gx_d mX5_holdNothing 5 (.aload_n 0) 1 := gx_dk (by decide +kernel)
theorem dX5_holdNothing_6 : gx_d mX5_holdNothing 6 (.iconst 0) 1 := gx_dk (by decide +kernel)
theorem dX5_holdNothing_7 : gx_d mX5_holdNothing 7 (.putfield 22) 3 := gx_dk (by decide +kernel)
theorem dX5_holdNothing_10 : gx_d mX5_holdNothing 10 (.return_) 1 := gx_dk (by decide +kernel)
theorem dX5_holdBody_0 : gx_d mX5_holdBody 0 (.aload_n 0) 1 := gx_dk (by decide +kernel)
theorem dX5_holdBody_1 : gx_d mX5_holdBody 1 (.iconst 1) 1 := gx_dk (by decide +kernel)
theorem dX5_holdBody_2 : gx_d mX5_holdBody 2 (.putfield 15) 3 := gx_dk (by decide +kernel)
theorem dX5_holdBody_5 : gx_d mX5_holdBody 5 (.aload_n 0) 1 := gx_dk (by decide +kernel)
theorem dX5_holdBody_6 : gx_d mX5_holdBody 6 (.iload_n 1) 1 := gx_dk (by decide +kernel)
theorem dX5_holdBody_7 : gx_d mX5_holdBody 7 (.putfield 25) 3 := gx_dk (by decide +kernel)
theorem dX5_holdBody_10 : gx_d mX5_holdBody 10 (.aload_n 0) 1 := gx_dk (by decide +kernel)
theorem dX5_holdBody_11 : gx_d mX5_holdBody 11 (.iconst 0) 1 := gx_dk (by decide +kernel)
theorem dX5_holdBody_12 : gx_d mX5_holdBody 12 (.putfield 22) 3 := gx_dk (by decide +kernel)
theorem dX5_holdBody_15 : gx_d mX5_holdBody 15 (.return_) 1 := gx_dk (by decide +kernel)
theorem dX5_holdRow_0 : gx_d mX5_holdRow 0 (.aload_n 0) 1 := gx_dk (by decide +kernel)
theorem dX5_holdRow_1 : gx_d mX5_holdRow 1 (.iconst 2) 1 := gx_dk (by decide +kernel)
theorem dX5_holdRow_2 : gx_d mX5_holdRow 2 (.putfield 15) 3 := gx_dk (by decide +kernel)
theorem dX5_holdRow_5 : gx_d mX5_holdRow 5 (.aload_n 0) 1 := gx_dk (by decide +kernel)
theorem dX5_holdRow_6 : gx_d mX5_holdRow 6 (.iload_n 1) 1 := gx_dk (by decide +kernel)
theorem dX5_holdRow_7 : gx_d mX5_holdRow 7 (.putfield 19) 3 := gx_dk (by decide +kernel)
theorem dX5_holdRow_10 : gx_d mX5_holdRow 10 (.aload_n 0) 1 := gx_dk (by decide +kernel)
theorem dX5_holdRow_11 : gx_d mX5_holdRow 11 (.iconst 0) 1 := gx_dk (by decide +kernel)
theorem dX5_holdRow_12 : gx_d mX5_holdRow 12 (.iload_n 2) 1 := gx_dk (by decide +kernel)
theorem dX5_holdRow_13 : gx_d mX5_holdRow 13 (.bipush 60) 2 := gx_dk (by decide +kernel)
theorem dX5_holdRow_15 : gx_d mX5_holdRow 15 (.invokestatic 28) 3 := gx_dk (by decide +kernel)
theorem dX5_holdRow_18 : gx_d mX5_holdRow 18 (.invokestatic 34) 3 := gx_dk (by decide +kernel)
theorem dX5_holdRow_21 : gx_d mX5_holdRow 21 (.putfield 22) 3 := gx_dk (by decide +kernel)
theorem dX5_holdRow_24 : gx_d mX5_holdRow 24 (.aload_n 0) 1 := gx_dk (by decide +kernel)
theorem dX5_holdRow_25 : gx_d mX5_holdRow 25 (.getfield 9) 3 := gx_dk (by decide +kernel)
theorem dX5_holdRow_28 : gx_d mX5_holdRow 28 (.lconst 0) 1 := gx_dk (by decide +kernel)
theorem dX5_holdRow_29 : gx_d mX5_holdRow 29 (.invokestatic 37) 3 := gx_dk (by decide +kernel)
theorem dX5_holdRow_32 : gx_d mX5_holdRow 32 (.return_) 1 := gx_dk (by decide +kernel)
theorem dX5_hasRoom_0 : gx_d mX5_hasRoom 0 (.iload_n 1) 1 := gx_dk (by decide +kernel)
theorem dX5_hasRoom_1 : gx_d mX5_hasRoom 1 (.ifCond .lt 21) 3 := gx_dk (by decide +kernel)
theorem dX5_hasRoom_4 : gx_d mX5_hasRoom 4 (.iload_n 2) 1 := gx_dk (by decide +kernel)
theorem dX5_hasRoom_5 : gx_d mX5_hasRoom 5 (.ifCond .lt 17) 3 := gx_dk (by decide +kernel)
theorem dX5_hasRoom_8 : gx_d mX5_hasRoom 8 (.iload_n 1) 1 := gx_dk (by decide +kernel)
theorem dX5_hasRoom_9 : gx_d mX5_hasRoom 9 (.aload_n 0) 1 := gx_dk (by decide +kernel)
theorem dX5_hasRoom_10 : gx_d mX5_hasRoom 10 (.getfield 22) 3 := gx_dk (by decide +kernel)
theorem dX5_hasRoom_13 : gx_d mX5_hasRoom 13 (.iload_n 2) 1 := gx_dk (by decide +kernel)
theorem dX5_hasRoom_14 : gx_d mX5_hasRoom 14 (.isub) 1 := gx_dk (by decide +kernel)
theorem dX5_hasRoom_15 : gx_d mX5_hasRoom 15 (.if_icmp .gt 7) 3 := gx_dk (by decide +kernel)
theorem dX5_hasRoom_18 : gx_d mX5_hasRoom 18 (.iconst 1) 1 := gx_dk (by decide +kernel)
theorem dX5_hasRoom_19 : gx_d mX5_hasRoom 19 (.goto 4) 3 := gx_dk (by decide +kernel)
theorem dX5_hasRoom_22 : gx_d mX5_hasRoom 22 (.iconst 0) 1 := gx_dk (by decide +kernel)
theorem dX5_hasRoom_23 : gx_d mX5_hasRoom 23 (.ireturn) 1 := gx_dk (by decide +kernel)
theorem dX5_valueAt_0 : gx_d mX5_valueAt 0 (.aload_n 0) 1 := gx_dk (by decide +kernel)
theorem dX5_valueAt_1 : gx_d mX5_valueAt 1 (.iload_n 1) 1 := gx_dk (by decide +kernel)
theorem dX5_valueAt_2 : gx_d mX5_valueAt 2 (.iconst 1) 1 := gx_dk (by decide +kernel)
theorem dX5_valueAt_3 : gx_d mX5_valueAt 3 (.invokevirtual 43) 3 := gx_dk (by decide +kernel)
theorem dX5_valueAt_6 : gx_d mX5_valueAt 6 (.ifCond .eq 12) 3 := gx_dk (by decide +kernel)
theorem dX5_valueAt_9 : gx_d mX5_valueAt 9 (.aload_n 0) 1 := gx_dk (by decide +kernel)
theorem dX5_valueAt_10 : gx_d mX5_valueAt 10 (.getfield 9) 3 := gx_dk (by decide +kernel)
theorem dX5_valueAt_13 : gx_d mX5_valueAt 13 (.iload_n 1) 1 := gx_dk (by decide +kernel)
theorem dX5_valueAt_14 : gx_d mX5_valueAt 14 (.laload) 1 := gx_dk (by decide +kernel)
theorem dX5_valueAt_15 : gx_d mX5_valueAt 15 (.goto 4) 3 := gx_dk (by decide +kernel)
theorem dX5_valueAt_18 : gx_d mX5_valueAt 18 (.lconst 0) 1 := gx_dk (by decide +kernel)
theorem dX5_valueAt_19 : gx_d mX5_valueAt 19 (.lreturn) 1 := gx_dk (by decide +kernel)
theorem dX5_small_0 : gx_d mX5_small 0 (.aload_n 0) 1 := gx_dk (by decide +kernel)
theorem dX5_small_1 : gx_d mX5_small 1 (.iload_n 1) 1 := gx_dk (by decide +kernel)
theorem dX5_small_2 : gx_d mX5_small 2 (.invokevirtual 47) 3 := gx_dk (by decide +kernel)
theorem dX5_small_5 : gx_d mX5_small 5 (.l2i) 1 := gx_dk (by decide +kernel)
theorem dX5_small_6 : gx_d mX5_small 6 (.ireturn) 1 := gx_dk (by decide +kernel)
theorem dX5_write_0 : gx_d mX5_write 0 (.aload_n 0) 1 := gx_dk (by decide +kernel)
theorem dX5_write_1 : gx_d mX5_write 1 (.iload_n 1) 1 := gx_dk (by decide +kernel)
theorem dX5_write_2 : gx_d mX5_write 2 (.iconst 1) 1 := gx_dk (by decide +kernel)
theorem dX5_write_3 : gx_d mX5_write 3 (.invokevirtual 43) 3 := gx_dk (by decide +kernel)
theorem dX5_write_6 : gx_d mX5_write 6 (.ifCond .eq 14) 3 := gx_dk (by decide +kernel)
theorem dX5_write_9 : gx_d mX5_write 9 (.aload_n 0) 1 := gx_dk (by decide +kernel)
theorem dX5_write_10 : gx_d mX5_write 10 (.getfield 9) 3 := gx_dk (by decide +kernel)
theorem dX5_write_13 : gx_d mX5_write 13 (.iload_n 1) 1 := gx_dk (by decide +kernel)
theorem dX5_write_14 : gx_d mX5_write 14 (.aload_n 0) 1 := gx_dk (by decide +kernel)
theorem dX5_write_15 : gx_d mX5_write 15 (.lload_n 2) 1 := gx_dk (by decide +kernel)
theorem dX5_write_16 : gx_d mX5_write 16 (.invokevirtual 51) 3 := gx_dk (by decide +kernel)
theorem dX5_write_19 : gx_d mX5_write 19 (.lastore) 1 := gx_dk (by decide +kernel)
theorem dX5_write_20 : gx_d mX5_write 20 (.return_) 1 := gx_dk (by decide +kernel)
theorem dX5_narrowed_0 : gx_d mX5_narrowed 0 (.aload_n 0) 1 := gx_dk (by decide +kernel)
theorem dX5_narrowed_1 : gx_d mX5_narrowed 1 (.getfield 19) 3 := gx_dk (by decide +kernel)
theorem dX5_narrowed_4 : gx_d mX5_narrowed 4 (.tableswitch 48 0 3 #[32, 37, 42, 46]) 32 := gx_dk (by decide +kernel)
theorem dX5_narrowed_36 : gx_d mX5_narrowed 36 (.lload_n 1) 1 := gx_dk (by decide +kernel)
theorem dX5_narrowed_37 : gx_d mX5_narrowed 37 (.l2i) 1 := gx_dk (by decide +kernel)
theorem dX5_narrowed_38 : gx_d mX5_narrowed 38 (.i2b) 1 := gx_dk (by decide +kernel)
theorem dX5_narrowed_39 : gx_d mX5_narrowed 39 (.i2l) 1 := gx_dk (by decide +kernel)
theorem dX5_narrowed_40 : gx_d mX5_narrowed 40 (.lreturn) 1 := gx_dk (by decide +kernel)
theorem dX5_narrowed_41 : gx_d mX5_narrowed 41 (.lload_n 1) 1 := gx_dk (by decide +kernel)
theorem dX5_narrowed_42 : gx_d mX5_narrowed 42 (.l2i) 1 := gx_dk (by decide +kernel)
theorem dX5_narrowed_43 : gx_d mX5_narrowed 43 (.i2s) 1 := gx_dk (by decide +kernel)
theorem dX5_narrowed_44 : gx_d mX5_narrowed 44 (.i2l) 1 := gx_dk (by decide +kernel)
theorem dX5_narrowed_45 : gx_d mX5_narrowed 45 (.lreturn) 1 := gx_dk (by decide +kernel)
theorem dX5_narrowed_46 : gx_d mX5_narrowed 46 (.lload_n 1) 1 := gx_dk (by decide +kernel)
theorem dX5_narrowed_47 : gx_d mX5_narrowed 47 (.l2i) 1 := gx_dk (by decide +kernel)
theorem dX5_narrowed_48 : gx_d mX5_narrowed 48 (.i2l) 1 := gx_dk (by decide +kernel)
theorem dX5_narrowed_49 : gx_d mX5_narrowed 49 (.lreturn) 1 := gx_dk (by decide +kernel)
theorem dX5_narrowed_50 : gx_d mX5_narrowed 50 (.lload_n 1) 1 := gx_dk (by decide +kernel)
theorem dX5_narrowed_51 : gx_d mX5_narrowed 51 (.lreturn) 1 := gx_dk (by decide +kernel)
theorem dX5_narrowed_52 : gx_d mX5_narrowed 52 (.lload_n 1) 1 := gx_dk (by decide +kernel)
theorem dX5_narrowed_53 : gx_d mX5_narrowed 53 (.lconst 0) 1 := gx_dk (by decide +kernel)
theorem dX5_narrowed_54 : gx_d mX5_narrowed 54 (.lcmp) 1 := gx_dk (by decide +kernel)
theorem dX5_narrowed_55 : gx_d mX5_narrowed 55 (.ifCond .eq 7) 3 := gx_dk (by decide +kernel)
theorem dX5_narrowed_58 : gx_d mX5_narrowed 58 (.lconst 1) 1 := gx_dk (by decide +kernel)
theorem dX5_narrowed_59 : gx_d mX5_narrowed 59 (.goto 4) 3 := gx_dk (by decide +kernel)
theorem dX5_narrowed_62 : gx_d mX5_narrowed 62 (.lconst 0) 1 := gx_dk (by decide +kernel)
theorem dX5_narrowed_63 : gx_d mX5_narrowed 63 (.lreturn) 1 := gx_dk (by decide +kernel)
theorem dX5_comers_0 : gx_d mX5_comers 0 (.iconst 0) 1 := gx_dk (by decide +kernel)
theorem dX5_comers_1 : gx_d mX5_comers 1 (.istore_n 2) 1 := gx_dk (by decide +kernel)
theorem dX5_comers_2 : gx_d mX5_comers 2 (.iload_n 2) 1 := gx_dk (by decide +kernel)
theorem dX5_comers_3 : gx_d mX5_comers 3 (.iload_n 1) 1 := gx_dk (by decide +kernel)
theorem dX5_comers_4 : gx_d mX5_comers 4 (.if_icmp .ge 29) 3 := gx_dk (by decide +kernel)
theorem dX5_comers_7 : gx_d mX5_comers 7 (.aload_n 0) 1 := gx_dk (by decide +kernel)
theorem dX5_comers_8 : gx_d mX5_comers 8 (.iload_n 2) 1 := gx_dk (by decide +kernel)
theorem dX5_comers_9 : gx_d mX5_comers 9 (.iconst 1) 1 := gx_dk (by decide +kernel)
theorem dX5_comers_10 : gx_d mX5_comers 10 (.invokevirtual 43) 3 := gx_dk (by decide +kernel)
theorem dX5_comers_13 : gx_d mX5_comers 13 (.ifCond .eq 20) 3 := gx_dk (by decide +kernel)
theorem dX5_comers_16 : gx_d mX5_comers 16 (.aload_n 0) 1 := gx_dk (by decide +kernel)
theorem dX5_comers_17 : gx_d mX5_comers 17 (.iload_n 2) 1 := gx_dk (by decide +kernel)
theorem dX5_comers_18 : gx_d mX5_comers 18 (.invokevirtual 55) 3 := gx_dk (by decide +kernel)
theorem dX5_comers_21 : gx_d mX5_comers 21 (.invokestatic 59) 3 := gx_dk (by decide +kernel)
theorem dX5_comers_24 : gx_d mX5_comers 24 (.ifCond .eq 9) 3 := gx_dk (by decide +kernel)
theorem dX5_comers_27 : gx_d mX5_comers 27 (.iinc 2 1) 3 := gx_dk (by decide +kernel)
theorem dX5_comers_30 : gx_d mX5_comers 30 (.goto (-28)) 3 := gx_dk (by decide +kernel)
theorem dX5_comers_33 : gx_d mX5_comers 33 (.iload_n 2) 1 := gx_dk (by decide +kernel)
theorem dX5_comers_34 : gx_d mX5_comers 34 (.ireturn) 1 := gx_dk (by decide +kernel)
theorem dJ6_bitCount_0f7a4_0 : gx_d mJ6_bitCount_0f7a4 0 (.iload_n 0) 1 := gx_dk (by decide +kernel)
theorem dJ6_bitCount_0f7a4_1 : gx_d mJ6_bitCount_0f7a4 1 (.iload_n 0) 1 := gx_dk (by decide +kernel)
theorem dJ6_bitCount_0f7a4_2 : gx_d mJ6_bitCount_0f7a4 2 (.iconst 1) 1 := gx_dk (by decide +kernel)
theorem dJ6_bitCount_0f7a4_3 : gx_d mJ6_bitCount_0f7a4 3 (.iushr) 1 := gx_dk (by decide +kernel)
theorem dJ6_bitCount_0f7a4_4 : gx_d mJ6_bitCount_0f7a4 4 (.ldc_w 265) 3 := gx_dk (by decide +kernel)
theorem dJ6_bitCount_0f7a4_7 : gx_d mJ6_bitCount_0f7a4 7 (.iand) 1 := gx_dk (by decide +kernel)
theorem dJ6_bitCount_0f7a4_8 : gx_d mJ6_bitCount_0f7a4 8 (.isub) 1 := gx_dk (by decide +kernel)
theorem dJ6_bitCount_0f7a4_9 : gx_d mJ6_bitCount_0f7a4 9 (.istore_n 0) 1 := gx_dk (by decide +kernel)
theorem dJ6_bitCount_0f7a4_10 : gx_d mJ6_bitCount_0f7a4 10 (.iload_n 0) 1 := gx_dk (by decide +kernel)
theorem dJ6_bitCount_0f7a4_11 : gx_d mJ6_bitCount_0f7a4 11 (.ldc_w 266) 3 := gx_dk (by decide +kernel)
theorem dJ6_bitCount_0f7a4_14 : gx_d mJ6_bitCount_0f7a4 14 (.iand) 1 := gx_dk (by decide +kernel)
theorem dJ6_bitCount_0f7a4_15 : gx_d mJ6_bitCount_0f7a4 15 (.iload_n 0) 1 := gx_dk (by decide +kernel)
theorem dJ6_bitCount_0f7a4_16 : gx_d mJ6_bitCount_0f7a4 16 (.iconst 2) 1 := gx_dk (by decide +kernel)
theorem dJ6_bitCount_0f7a4_17 : gx_d mJ6_bitCount_0f7a4 17 (.iushr) 1 := gx_dk (by decide +kernel)
theorem dJ6_bitCount_0f7a4_18 : gx_d mJ6_bitCount_0f7a4 18 (.ldc_w 266) 3 := gx_dk (by decide +kernel)
theorem dJ6_bitCount_0f7a4_21 : gx_d mJ6_bitCount_0f7a4 21 (.iand) 1 := gx_dk (by decide +kernel)
theorem dJ6_bitCount_0f7a4_22 : gx_d mJ6_bitCount_0f7a4 22 (.iadd) 1 := gx_dk (by decide +kernel)
theorem dJ6_bitCount_0f7a4_23 : gx_d mJ6_bitCount_0f7a4 23 (.istore_n 0) 1 := gx_dk (by decide +kernel)
theorem dJ6_bitCount_0f7a4_24 : gx_d mJ6_bitCount_0f7a4 24 (.iload_n 0) 1 := gx_dk (by decide +kernel)
theorem dJ6_bitCount_0f7a4_25 : gx_d mJ6_bitCount_0f7a4 25 (.iload_n 0) 1 := gx_dk (by decide +kernel)
theorem dJ6_bitCount_0f7a4_26 : gx_d mJ6_bitCount_0f7a4 26 (.iconst 4) 1 := gx_dk (by decide +kernel)
theorem dJ6_bitCount_0f7a4_27 : gx_d mJ6_bitCount_0f7a4 27 (.iushr) 1 := gx_dk (by decide +kernel)
theorem dJ6_bitCount_0f7a4_28 : gx_d mJ6_bitCount_0f7a4 28 (.iadd) 1 := gx_dk (by decide +kernel)
theorem dJ6_bitCount_0f7a4_29 : gx_d mJ6_bitCount_0f7a4 29 (.ldc_w 267) 3 := gx_dk (by decide +kernel)
theorem dJ6_bitCount_0f7a4_32 : gx_d mJ6_bitCount_0f7a4 32 (.iand) 1 := gx_dk (by decide +kernel)
theorem dJ6_bitCount_0f7a4_33 : gx_d mJ6_bitCount_0f7a4 33 (.istore_n 0) 1 := gx_dk (by decide +kernel)
theorem dJ6_bitCount_0f7a4_34 : gx_d mJ6_bitCount_0f7a4 34 (.iload_n 0) 1 := gx_dk (by decide +kernel)
theorem dJ6_bitCount_0f7a4_35 : gx_d mJ6_bitCount_0f7a4 35 (.iload_n 0) 1 := gx_dk (by decide +kernel)
theorem dJ6_bitCount_0f7a4_36 : gx_d mJ6_bitCount_0f7a4 36 (.bipush 8) 2 := gx_dk (by decide +kernel)
theorem dJ6_bitCount_0f7a4_38 : gx_d mJ6_bitCount_0f7a4 38 (.iushr) 1 := gx_dk (by decide +kernel)
theorem dJ6_bitCount_0f7a4_39 : gx_d mJ6_bitCount_0f7a4 39 (.iadd) 1 := gx_dk (by decide +kernel)
theorem dJ6_bitCount_0f7a4_40 : gx_d mJ6_bitCount_0f7a4 40 (.istore_n 0) 1 := gx_dk (by decide +kernel)
theorem dJ6_bitCount_0f7a4_41 : gx_d mJ6_bitCount_0f7a4 41 (.iload_n 0) 1 := gx_dk (by decide +kernel)
theorem dJ6_bitCount_0f7a4_42 : gx_d mJ6_bitCount_0f7a4 42 (.iload_n 0) 1 := gx_dk (by decide +kernel)
theorem dJ6_bitCount_0f7a4_43 : gx_d mJ6_bitCount_0f7a4 43 (.bipush 16) 2 := gx_dk (by decide +kernel)
theorem dJ6_bitCount_0f7a4_45 : gx_d mJ6_bitCount_0f7a4 45 (.iushr) 1 := gx_dk (by decide +kernel)
theorem dJ6_bitCount_0f7a4_46 : gx_d mJ6_bitCount_0f7a4 46 (.iadd) 1 := gx_dk (by decide +kernel)
theorem dJ6_bitCount_0f7a4_47 : gx_d mJ6_bitCount_0f7a4 47 (.istore_n 0) 1 := gx_dk (by decide +kernel)
theorem dJ6_bitCount_0f7a4_48 : gx_d mJ6_bitCount_0f7a4 48 (.iload_n 0) 1 := gx_dk (by decide +kernel)
theorem dJ6_bitCount_0f7a4_49 : gx_d mJ6_bitCount_0f7a4 49 (.bipush 63) 2 := gx_dk (by decide +kernel)
theorem dJ6_bitCount_0f7a4_51 : gx_d mJ6_bitCount_0f7a4 51 (.iand) 1 := gx_dk (by decide +kernel)
theorem dJ6_bitCount_0f7a4_52 : gx_d mJ6_bitCount_0f7a4 52 (.ireturn) 1 := gx_dk (by decide +kernel)
theorem dJ9_max_7cf53_0 : gx_d mJ9_max_7cf53 0 (.iload_n 0) 1 := gx_dk (by decide +kernel)
theorem dJ9_max_7cf53_1 : gx_d mJ9_max_7cf53 1 (.iload_n 1) 1 := gx_dk (by decide +kernel)
theorem dJ9_max_7cf53_2 : gx_d mJ9_max_7cf53 2 (.if_icmp .lt 7) 3 := gx_dk (by decide +kernel)
theorem dJ9_max_7cf53_5 : gx_d mJ9_max_7cf53 5 (.iload_n 0) 1 := gx_dk (by decide +kernel)
theorem dJ9_max_7cf53_6 : gx_d mJ9_max_7cf53 6 (.goto 4) 3 := gx_dk (by decide +kernel)
theorem dJ9_max_7cf53_9 : gx_d mJ9_max_7cf53 9 (.iload_n 1) 1 := gx_dk (by decide +kernel)
theorem dJ9_max_7cf53_10 : gx_d mJ9_max_7cf53 10 (.ireturn) 1 := gx_dk (by decide +kernel)
theorem dJ9_min_7cf53_0 : gx_d mJ9_min_7cf53 0 (.iload_n 0) 1 := gx_dk (by decide +kernel)
theorem dJ9_min_7cf53_1 : gx_d mJ9_min_7cf53 1 (.iload_n 1) 1 := gx_dk (by decide +kernel)
theorem dJ9_min_7cf53_2 : gx_d mJ9_min_7cf53 2 (.if_icmp .gt 7) 3 := gx_dk (by decide +kernel)
theorem dJ9_min_7cf53_5 : gx_d mJ9_min_7cf53 5 (.iload_n 0) 1 := gx_dk (by decide +kernel)
theorem dJ9_min_7cf53_6 : gx_d mJ9_min_7cf53 6 (.goto 4) 3 := gx_dk (by decide +kernel)
theorem dJ9_min_7cf53_9 : gx_d mJ9_min_7cf53 9 (.iload_n 1) 1 := gx_dk (by decide +kernel)
theorem dJ9_min_7cf53_10 : gx_d mJ9_min_7cf53 10 (.ireturn) 1 := gx_dk (by decide +kernel)
theorem dJ7_fill_d0a16_0 : gx_d mJ7_fill_d0a16 0 (.iconst 0) 1 := gx_dk (by decide +kernel)
theorem dJ7_fill_d0a16_1 : gx_d mJ7_fill_d0a16 1 (.istore_n 3) 1 := gx_dk (by decide +kernel)
theorem dJ7_fill_d0a16_2 : gx_d mJ7_fill_d0a16 2 (.aload_n 0) 1 := gx_dk (by decide +kernel)
theorem dJ7_fill_d0a16_3 : gx_d mJ7_fill_d0a16 3 (.arraylength) 1 := gx_dk (by decide +kernel)
theorem dJ7_fill_d0a16_4 : gx_d mJ7_fill_d0a16 4 (.istore 4) 2 := gx_dk (by decide +kernel)
theorem dJ7_fill_d0a16_6 : gx_d mJ7_fill_d0a16 6 (.iload_n 3) 1 := gx_dk (by decide +kernel)
theorem dJ7_fill_d0a16_7 : gx_d mJ7_fill_d0a16 7 (.iload 4) 2 := gx_dk (by decide +kernel)
theorem dJ7_fill_d0a16_9 : gx_d mJ7_fill_d0a16 9 (.if_icmp .ge 13) 3 := gx_dk (by decide +kernel)
theorem dJ7_fill_d0a16_12 : gx_d mJ7_fill_d0a16 12 (.aload_n 0) 1 := gx_dk (by decide +kernel)
theorem dJ7_fill_d0a16_13 : gx_d mJ7_fill_d0a16 13 (.iload_n 3) 1 := gx_dk (by decide +kernel)
theorem dJ7_fill_d0a16_14 : gx_d mJ7_fill_d0a16 14 (.lload_n 1) 1 := gx_dk (by decide +kernel)
theorem dJ7_fill_d0a16_15 : gx_d mJ7_fill_d0a16 15 (.lastore) 1 := gx_dk (by decide +kernel)
theorem dJ7_fill_d0a16_16 : gx_d mJ7_fill_d0a16 16 (.iinc 3 1) 3 := gx_dk (by decide +kernel)
theorem dJ7_fill_d0a16_19 : gx_d mJ7_fill_d0a16 19 (.goto (-13)) 3 := gx_dk (by decide +kernel)
theorem dJ7_fill_d0a16_22 : gx_d mJ7_fill_d0a16 22 (.return_) 1 := gx_dk (by decide +kernel)
theorem dJ7_fill_53178_0 : gx_d mJ7_fill_53178 0 (.iconst 0) 1 := gx_dk (by decide +kernel)
theorem dJ7_fill_53178_1 : gx_d mJ7_fill_53178 1 (.istore_n 2) 1 := gx_dk (by decide +kernel)
theorem dJ7_fill_53178_2 : gx_d mJ7_fill_53178 2 (.aload_n 0) 1 := gx_dk (by decide +kernel)
theorem dJ7_fill_53178_3 : gx_d mJ7_fill_53178 3 (.arraylength) 1 := gx_dk (by decide +kernel)
theorem dJ7_fill_53178_4 : gx_d mJ7_fill_53178 4 (.istore_n 3) 1 := gx_dk (by decide +kernel)
theorem dJ7_fill_53178_5 : gx_d mJ7_fill_53178 5 (.iload_n 2) 1 := gx_dk (by decide +kernel)
theorem dJ7_fill_53178_6 : gx_d mJ7_fill_53178 6 (.iload_n 3) 1 := gx_dk (by decide +kernel)
theorem dJ7_fill_53178_7 : gx_d mJ7_fill_53178 7 (.if_icmp .ge 13) 3 := gx_dk (by decide +kernel)
theorem dJ7_fill_53178_10 : gx_d mJ7_fill_53178 10 (.aload_n 0) 1 := gx_dk (by decide +kernel)
theorem dJ7_fill_53178_11 : gx_d mJ7_fill_53178 11 (.iload_n 2) 1 := gx_dk (by decide +kernel)
theorem dJ7_fill_53178_12 : gx_d mJ7_fill_53178 12 (.iload_n 1) 1 := gx_dk (by decide +kernel)
theorem dJ7_fill_53178_13 : gx_d mJ7_fill_53178 13 (.iastore) 1 := gx_dk (by decide +kernel)
theorem dJ7_fill_53178_14 : gx_d mJ7_fill_53178 14 (.iinc 2 1) 3 := gx_dk (by decide +kernel)
theorem dJ7_fill_53178_17 : gx_d mJ7_fill_53178 17 (.goto (-12)) 3 := gx_dk (by decide +kernel)
theorem dJ7_fill_53178_20 : gx_d mJ7_fill_53178 20 (.return_) 1 := gx_dk (by decide +kernel)
theorem dX9_isComer_0 : gx_d mX9_isComer 0 (.iload_n 0) 1 := gx_dk (by decide +kernel)
theorem dX9_isComer_1 : gx_d mX9_isComer 1 (.ifCond .lt 13) 3 := gx_dk (by decide +kernel)
theorem dX9_isComer_4 : gx_d mX9_isComer 4 (.iload_n 0) 1 := gx_dk (by decide +kernel)
theorem dX9_isComer_5 : gx_d mX9_isComer 5 (.bipush 100) 2 := gx_dk (by decide +kernel)
theorem dX9_isComer_7 : gx_d mX9_isComer 7 (.if_icmp .ge 7) 3 := gx_dk (by decide +kernel)
theorem dX9_isComer_10 : gx_d mX9_isComer 10 (.iconst 1) 1 := gx_dk (by decide +kernel)
theorem dX9_isComer_11 : gx_d mX9_isComer 11 (.goto 4) 3 := gx_dk (by decide +kernel)
theorem dX9_isComer_14 : gx_d mX9_isComer 14 (.iconst 0) 1 := gx_dk (by decide +kernel)
theorem dX9_isComer_15 : gx_d mX9_isComer 15 (.ireturn) 1 := gx_dk (by decide +kernel)
/-- a shelf: its object r, its row a of 60 longs -/
def isSh (w : gx_W) (r a : Nat) : Prop := w.1[r]? = some (5, 0) ∧ w_r w r 0 = some a ∧ w.1[a]? = some (23, 60)
/-- and its length -/
def isSn (w : gx_W) (r a ln : Nat) : Prop := isSh w r a ∧ w_i w r 4 = nI ln ∧ ln ≤ 60
theorem sh_room {i n : Int32} {ln : Nat} (hb : ln ≤ 60) (h0 : ¬ i < 0) (h1 : ¬ n < 0) : i > nI ln - n ↔ ¬ i.toInt.toNat + n.toInt.toNat ≤ ln := by
  rw [pI_lt] at h0 h1
  have e0 : (0 : Int32).toInt = 0 := by decide
  rw [e0] at h0 h1
  have hl : (nI ln).toInt = ln := nI_toInt (by omega)
  have b1 := pI_b i
  have b2 := pI_b n
  rw [pI_gt, pI_sub (by omega) (by omega), hl]
  omega
/-- what a sort of row keeps of a long -/
def sh_nar (sort : Int32) (v : Int64) : Int64 := if sort = 0 then v.toInt32.toInt8.toInt32.toInt64 else if sort = 1 then v.toInt32.toInt16.toInt32.toInt64 else if sort = 2 then v.toInt32.toInt64 else if sort = 3 then v else if v = 0 then 0 else 1
/-- how many comers are ahead of the first that is none -/
def isCo (x : Int32) : Bool := !decide (x < 0) && !decide (x ≥ 100)
def sh_com (C : Nat → Bool) : Nat → Nat
  | 0 => 0
  | b + 1 => if sh_com C b = b ∧ C b = true then b + 1 else sh_com C b
theorem sh_com_le (C : Nat → Bool) (b : Nat) : sh_com C b ≤ b := by
  induction b with
  | zero => exact Nat.le_refl 0
  | succ b ih =>
    unfold sh_com
    split <;> omega
theorem sh_com_all (C : Nat → Bool) (b : Nat) (h : ∀ i, i < b → C i = true) : sh_com C b = b := by
  induction b with
  | zero => rfl
  | succ b ih =>
    have h1 := ih (fun i hi => h i (by omega))
    unfold sh_com
    rw [if_pos ⟨h1, h b (by omega)⟩]
theorem sh_com_at (C : Nat → Bool) (b j : Nat) (hj : j < b) (h : ∀ i, i < j → C i = true) (hn : ¬ C j = true) : sh_com C b = j := by
  induction b with
  | zero => omega
  | succ b ih =>
    unfold sh_com
    by_cases e : j = b
    · subst e
      have h1 := sh_com_all C j h
      rw [if_neg (fun z => hn z.2), h1]
    · have h1 := ih (by omega)
      rw [if_neg (fun z => by omega), h1]
theorem va_up_up {α : Type} {f : Nat → α} {k : Nat} {u v : α} : va_up (va_up f k u) k v = va_up f k v := by
  funext j
  by_cases h : j = k
  · subst h; rw [va_up_at, va_up_at]
  · rw [va_up_row h, va_up_row h, va_up_row h]
theorem s_l_l {w : gx_W} {k : Nat} {f g : Nat → Int64} : s_l (s_l w k f) k g = s_l w k g := by
  show (w.1, w.2.1, w.2.2.1, w.2.2.2.1, va_up (va_up w.2.2.2.2.1 k f) k g, w.2.2.2.2.2) = _
  rw [va_up_up]; rfl
theorem s_a_a {w : gx_W} {k : Nat} {f g : Nat → Int32} : s_a (s_a w k f) k g = s_a w k g := by
  show (w.1, w.2.1, w.2.2.1, va_up (va_up w.2.2.2.1 k f) k g, w.2.2.2.2) = _
  rw [va_up_up]; rfl
theorem sh_fill {α : Type} {f : Nat → α} {v : α} {i : Nat} : va_up (fun j => if j < i then v else f j) i v = fun j => if j < i + 1 then v else f j := by
  funext j
  by_cases h : j = i
  · subst h; rw [va_up_at, if_pos (by omega)]
  · rw [va_up_row h]
    by_cases h2 : j < i
    · rw [if_pos h2, if_pos (by omega)]
    · rw [if_neg h2, if_neg (by omega)]
theorem nI_1' (n : Nat) : nI n + Int32.ofInt 1 = nI (n + 1) := (nI_succ n).symm
theorem sh_clamp {m : Nat} (hm : m ≤ 60) : (if (0 : Int32) < (if nI m > 60 then 60 else nI m) then (if nI m > 60 then 60 else nI m) else 0) = nI m := by
  have h : ¬ nI m > 60 := by
    rw [pI_gt, nI_toInt (by omega)]
    have : (60 : Int32).toInt = 60 := by decide
    omega
  rw [if_neg h]
  by_cases h0 : m = 0
  · subst h0; rfl
  · rw [if_pos]
    rw [pI_lt, nI_toInt (by omega)]
    have : (0 : Int32).toInt = 0 := by decide
    omega
theorem c_J9_max_7cf53 {d : Nat} {w : gx_W} {a b : Int32} {k : Int32 → gx_W → Prop} (hd : 0 ≤ d) (kk : k (if a < b then b else a) w) : gx_C 0 0 d mJ9_max_7cf53 [.int a, .int b] w (Qi k) := by
  refine gx_C_ofF (L := [.int a, .int b]) (by decide +kernel) rfl (Nat.le_of_ble_eq_true rfl) ?_
  refine g_iload_n dJ9_max_7cf53_0 rfl ?_
  refine g_iload_n dJ9_max_7cf53_1 rfl ?_
  refine g_icmp_lt (tgt := 9) dJ9_max_7cf53_2 (by decide) (fun zc2 => ?_) (fun zc2 => ?_)
  · refine g_iload_n dJ9_max_7cf53_9 rfl ?_
    refine g_iret dJ9_max_7cf53_10 rfl ⟨_, rfl, ?_⟩
    first | (rw [if_pos (by assumption)] at kk; exact kk) | (rw [if_neg (by first | assumption | exact Int32.not_lt.mpr (by assumption))] at kk; exact kk)
  · refine g_iload_n dJ9_max_7cf53_5 rfl ?_
    refine g_goto (tgt := 10) dJ9_max_7cf53_6 (by decide) ?_
    refine g_iret dJ9_max_7cf53_10 rfl ⟨_, rfl, ?_⟩
    first | (rw [if_pos (by assumption)] at kk; exact kk) | (rw [if_neg (by first | assumption | exact Int32.not_lt.mpr (by assumption))] at kk; exact kk)
theorem c_J9_min_7cf53 {d : Nat} {w : gx_W} {a b : Int32} {k : Int32 → gx_W → Prop} (hd : 0 ≤ d) (kk : k (if a > b then b else a) w) : gx_C 0 0 d mJ9_min_7cf53 [.int a, .int b] w (Qi k) := by
  refine gx_C_ofF (L := [.int a, .int b]) (by decide +kernel) rfl (Nat.le_of_ble_eq_true rfl) ?_
  refine g_iload_n dJ9_min_7cf53_0 rfl ?_
  refine g_iload_n dJ9_min_7cf53_1 rfl ?_
  refine g_icmp_gt (tgt := 9) dJ9_min_7cf53_2 (by decide) (fun zc2 => ?_) (fun zc2 => ?_)
  · refine g_iload_n dJ9_min_7cf53_9 rfl ?_
    refine g_iret dJ9_min_7cf53_10 rfl ⟨_, rfl, ?_⟩
    first | (rw [if_pos (by assumption)] at kk; exact kk) | (rw [if_neg (by first | assumption | exact Int32.not_lt.mpr (by assumption))] at kk; exact kk)
  · refine g_iload_n dJ9_min_7cf53_5 rfl ?_
    refine g_goto (tgt := 10) dJ9_min_7cf53_6 (by decide) ?_
    refine g_iret dJ9_min_7cf53_10 rfl ⟨_, rfl, ?_⟩
    first | (rw [if_pos (by assumption)] at kk; exact kk) | (rw [if_neg (by first | assumption | exact Int32.not_lt.mpr (by assumption))] at kk; exact kk)
theorem c_X9_isComer {d : Nat} {w : gx_W} {x : Int32} {k : Int32 → gx_W → Prop} (hd : 0 ≤ d) (kt : isCo x = true → k 1 w) (kf : ¬ isCo x = true → k 0 w) : gx_C 0 0 d mX9_isComer [.int x] w (Qi k) := by
  refine gx_C_of' (L := [.int x]) (by decide +kernel) rfl (Nat.le_of_ble_eq_true rfl) ?_
  refine g_iload_n dX9_isComer_0 rfl ?_
  refine g_if_lt (tgt := 14) dX9_isComer_1 (by decide) (fun zc1 => ?_) (fun zc1 => ?_)
  · refine g_iconst (v := 0) dX9_isComer_14 rfl ?_
    refine g_zret dX9_isComer_15 rfl (Or.inl rfl) ⟨_, rfl, ?_⟩
    exact kf (fun z => by
      simp only [isCo, Bool.and_eq_true, Bool.not_eq_true', decide_eq_false_iff_not] at z
      first | exact z.1 zc1 | exact z.2 zc7)
  · refine g_iload_n dX9_isComer_4 rfl ?_
    refine g_bipush (v := 100) dX9_isComer_5 rfl ?_
    refine g_icmp_ge (tgt := 14) dX9_isComer_7 (by decide) (fun zc7 => ?_) (fun zc7 => ?_)
    · refine g_iconst (v := 0) dX9_isComer_14 rfl ?_
      refine g_zret dX9_isComer_15 rfl (Or.inl rfl) ⟨_, rfl, ?_⟩
      exact kf (fun z => by
        simp only [isCo, Bool.and_eq_true, Bool.not_eq_true', decide_eq_false_iff_not] at z
        first | exact z.1 zc1 | exact z.2 zc7)
    · refine g_iconst (v := 1) dX9_isComer_10 rfl ?_
      refine g_goto (tgt := 15) dX9_isComer_11 (by decide) ?_
      refine g_zret dX9_isComer_15 rfl (Or.inr rfl) ⟨_, rfl, ?_⟩
      exact kt (by simp only [isCo, Bool.and_eq_true, Bool.not_eq_true', decide_eq_false_iff_not]; exact ⟨by simpa using zc1, by simpa using zc7⟩)
theorem c_X5_holdsNothing {d : Nat} {w : gx_W} {r a : Nat} {k : Int32 → gx_W → Prop} (hd : 0 ≤ d) (h : isSh w r a) (kt : w_i w r 1 = 0 → k 1 w) (kf : ¬ w_i w r 1 = 0 → k 0 w) : gx_C 0 0 d mX5_holdsNothing [.ref r] w (Qi k) := by
  refine gx_C_of' (L := [.ref r]) (by decide +kernel) rfl (Nat.le_of_ble_eq_true rfl) ?_
  refine g_aload_n dX5_holdsNothing_0 rfl ?_
  refine g_geti dX5_holdsNothing_1 fl_X5_15 h.1 ?_
  refine g_if_ne (tgt := 11) dX5_holdsNothing_4 (by decide) (fun zc4 => ?_) (fun zc4 => ?_)
  · refine g_iconst (v := 0) dX5_holdsNothing_11 rfl ?_
    refine g_zret dX5_holdsNothing_12 rfl (Or.inl rfl) ⟨_, rfl, ?_⟩
    exact kf (by simpa using zc4)
  · refine g_iconst (v := 1) dX5_holdsNothing_7 rfl ?_
    refine g_goto (tgt := 12) dX5_holdsNothing_8 (by decide) ?_
    refine g_zret dX5_holdsNothing_12 rfl (Or.inr rfl) ⟨_, rfl, ?_⟩
    exact kt (by simpa using zc4)
theorem c_X5_holdsRow {d : Nat} {w : gx_W} {r a : Nat} {k : Int32 → gx_W → Prop} (hd : 0 ≤ d) (h : isSh w r a) (kt : w_i w r 1 = 2 → k 1 w) (kf : ¬ w_i w r 1 = 2 → k 0 w) : gx_C 0 0 d mX5_holdsRow [.ref r] w (Qi k) := by
  refine gx_C_of' (L := [.ref r]) (by decide +kernel) rfl (Nat.le_of_ble_eq_true rfl) ?_
  refine g_aload_n dX5_holdsRow_0 rfl ?_
  refine g_geti dX5_holdsRow_1 fl_X5_15 h.1 ?_
  refine g_iconst (v := 2) dX5_holdsRow_4 rfl ?_
  refine g_icmp_ne (tgt := 12) dX5_holdsRow_5 (by decide) (fun zc5 => ?_) (fun zc5 => ?_)
  · refine g_iconst (v := 0) dX5_holdsRow_12 rfl ?_
    refine g_zret dX5_holdsRow_13 rfl (Or.inl rfl) ⟨_, rfl, ?_⟩
    exact kf (by simpa using zc5)
  · refine g_iconst (v := 1) dX5_holdsRow_8 rfl ?_
    refine g_goto (tgt := 13) dX5_holdsRow_9 (by decide) ?_
    refine g_zret dX5_holdsRow_13 rfl (Or.inr rfl) ⟨_, rfl, ?_⟩
    exact kt (by simpa using zc5)
theorem c_X5_holdsBytes {d : Nat} {w : gx_W} {r a : Nat} {k : Int32 → gx_W → Prop} (hd : 0 ≤ d) (h : isSh w r a) (kt : w_i w r 1 = 2 → w_i w r 3 = 0 → k 1 w) (kf : ¬ (w_i w r 1 = 2 ∧ w_i w r 3 = 0) → k 0 w) : gx_C 0 0 d mX5_holdsBytes [.ref r] w (Qi k) := by
  refine gx_C_of' (L := [.ref r]) (by decide +kernel) rfl (Nat.le_of_ble_eq_true rfl) ?_
  refine g_aload_n dX5_holdsBytes_0 rfl ?_
  refine g_geti dX5_holdsBytes_1 fl_X5_15 h.1 ?_
  refine g_iconst (v := 2) dX5_holdsBytes_4 rfl ?_
  refine g_icmp_ne (tgt := 19) dX5_holdsBytes_5 (by decide) (fun zc5 => ?_) (fun zc5 => ?_)
  · refine g_iconst (v := 0) dX5_holdsBytes_19 rfl ?_
    refine g_zret dX5_holdsBytes_20 rfl (Or.inl rfl) ⟨_, rfl, ?_⟩
    exact kf (fun q => by simp_all)
  · refine g_aload_n dX5_holdsBytes_8 rfl ?_
    refine g_geti dX5_holdsBytes_9 fl_X5_19 h.1 ?_
    refine g_if_ne (tgt := 19) dX5_holdsBytes_12 (by decide) (fun zc12 => ?_) (fun zc12 => ?_)
    · refine g_iconst (v := 0) dX5_holdsBytes_19 rfl ?_
      refine g_zret dX5_holdsBytes_20 rfl (Or.inl rfl) ⟨_, rfl, ?_⟩
      exact kf (fun q => by simp_all)
    · refine g_iconst (v := 1) dX5_holdsBytes_15 rfl ?_
      refine g_goto (tgt := 20) dX5_holdsBytes_16 (by decide) ?_
      refine g_zret dX5_holdsBytes_20 rfl (Or.inr rfl) ⟨_, rfl, ?_⟩
      exact kt (by simpa using zc5) (by simpa using zc12)
theorem c_X5_holdNothing {d : Nat} {w : gx_W} {r a : Nat} {k : gx_W → Prop} (hd : 0 ≤ d) (h : isSh w r a) (kk : k (s_i (s_i w r 1 0) r 4 0)) : gx_C 0 0 d mX5_holdNothing [.ref r] w (Qv k) := by
  refine gx_C_of' (L := [.ref r]) (by decide +kernel) rfl (Nat.le_of_ble_eq_true rfl) ?_
  refine g_aload_n dX5_holdNothing_0 rfl ?_
  refine g_iconst (v := 0) dX5_holdNothing_1 rfl ?_
  refine g_puti dX5_holdNothing_2 fl_X5_15 ft_5_1 h.1 ?_
  refine g_aload_n dX5_holdNothing_5 rfl ?_
  refine g_iconst (v := 0) dX5_holdNothing_6 rfl ?_
  refine g_puti dX5_holdNothing_7 fl_X5_22 ft_5_4 h.1 ?_
  refine g_vret dX5_holdNothing_10 rfl ⟨rfl, ?_⟩
  exact kk
theorem c_X5_holdBody {d : Nat} {w : gx_W} {r a : Nat} {v : Int32} {k : gx_W → Prop} (hd : 0 ≤ d) (h : isSh w r a) (kk : k (s_i (s_i (s_i w r 1 1) r 2 v) r 4 0)) : gx_C 0 0 d mX5_holdBody [.ref r, .int v] w (Qv k) := by
  refine gx_C_of' (L := [.ref r, .int v]) (by decide +kernel) rfl (Nat.le_of_ble_eq_true rfl) ?_
  refine g_aload_n dX5_holdBody_0 rfl ?_
  refine g_iconst (v := 1) dX5_holdBody_1 rfl ?_
  refine g_puti dX5_holdBody_2 fl_X5_15 ft_5_1 h.1 ?_
  refine g_aload_n dX5_holdBody_5 rfl ?_
  refine g_iload_n dX5_holdBody_6 rfl ?_
  refine g_puti dX5_holdBody_7 fl_X5_25 ft_5_2 h.1 ?_
  refine g_aload_n dX5_holdBody_10 rfl ?_
  refine g_iconst (v := 0) dX5_holdBody_11 rfl ?_
  refine g_puti dX5_holdBody_12 fl_X5_22 ft_5_4 h.1 ?_
  refine g_vret dX5_holdBody_15 rfl ⟨rfl, ?_⟩
  exact kk
theorem c_X5_hasRoom {d : Nat} {w : gx_W} {r a ln : Nat} {i n : Int32} {k : Int32 → gx_W → Prop} (hd : 0 ≤ d) (h : isSn w r a ln) (kt : ∀ x y : Nat, i = nI x → n = nI y → x + y ≤ ln → k 1 w) (kf : (∀ x y : Nat, x < 2 ^ 31 → y < 2 ^ 31 → i = nI x → n = nI y → ¬ x + y ≤ ln) → k 0 w) : gx_C 0 0 d mX5_hasRoom [.ref r, .int i, .int n] w (Qi k) := by
  refine gx_C_of' (L := [.ref r, .int i, .int n]) (by decide +kernel) rfl (Nat.le_of_ble_eq_true rfl) ?_
  refine g_iload_n dX5_hasRoom_0 rfl ?_
  refine g_if_lt (tgt := 22) dX5_hasRoom_1 (by decide) (fun zc1 => ?_) (fun zc1 => ?_)
  · refine g_iconst (v := 0) dX5_hasRoom_22 rfl ?_
    refine g_zret dX5_hasRoom_23 rfl (Or.inl rfl) ⟨_, rfl, ?_⟩
    refine kf (fun x y hx hy e1 e2 => ?_)
    first
      | (exfalso; rw [pI_lt, e1, nI_toInt hx] at zc1; have e0 : (0 : Int32).toInt = 0 := by decide
         omega)
      | (exfalso; rw [pI_lt, e2, nI_toInt hy] at zc5; have e0 : (0 : Int32).toInt = 0 := by decide
         omega)
      | (have zc1' : ¬ i < 0 := by simpa using zc1
         have zc5' : ¬ n < 0 := by simpa using zc5
         have zc15' : i > w_i w r 4 - n := zc15
         rw [h.2.1, sh_room h.2.2 zc1' zc5', e1, e2, nI_toInt hx, nI_toInt hy] at zc15'
         simpa using zc15')
  · refine g_iload_n dX5_hasRoom_4 rfl ?_
    refine g_if_lt (tgt := 22) dX5_hasRoom_5 (by decide) (fun zc5 => ?_) (fun zc5 => ?_)
    · refine g_iconst (v := 0) dX5_hasRoom_22 rfl ?_
      refine g_zret dX5_hasRoom_23 rfl (Or.inl rfl) ⟨_, rfl, ?_⟩
      refine kf (fun x y hx hy e1 e2 => ?_)
      first
        | (exfalso; rw [pI_lt, e1, nI_toInt hx] at zc1; have e0 : (0 : Int32).toInt = 0 := by decide
           omega)
        | (exfalso; rw [pI_lt, e2, nI_toInt hy] at zc5; have e0 : (0 : Int32).toInt = 0 := by decide
           omega)
        | (have zc1' : ¬ i < 0 := by simpa using zc1
           have zc5' : ¬ n < 0 := by simpa using zc5
           have zc15' : i > w_i w r 4 - n := zc15
           rw [h.2.1, sh_room h.2.2 zc1' zc5', e1, e2, nI_toInt hx, nI_toInt hy] at zc15'
           simpa using zc15')
    · refine g_iload_n dX5_hasRoom_8 rfl ?_
      refine g_aload_n dX5_hasRoom_9 rfl ?_
      refine g_geti dX5_hasRoom_10 fl_X5_22 h.1.1 ?_
      refine g_iload_n dX5_hasRoom_13 rfl ?_
      refine g_isub dX5_hasRoom_14 ?_
      refine g_icmp_gt (tgt := 22) dX5_hasRoom_15 (by decide) (fun zc15 => ?_) (fun zc15 => ?_)
      · refine g_iconst (v := 0) dX5_hasRoom_22 rfl ?_
        refine g_zret dX5_hasRoom_23 rfl (Or.inl rfl) ⟨_, rfl, ?_⟩
        refine kf (fun x y hx hy e1 e2 => ?_)
        first
          | (exfalso; rw [pI_lt, e1, nI_toInt hx] at zc1; have e0 : (0 : Int32).toInt = 0 := by decide
             omega)
          | (exfalso; rw [pI_lt, e2, nI_toInt hy] at zc5; have e0 : (0 : Int32).toInt = 0 := by decide
             omega)
          | (have zc1' : ¬ i < 0 := by simpa using zc1
             have zc5' : ¬ n < 0 := by simpa using zc5
             have zc15' : i > w_i w r 4 - n := zc15
             rw [h.2.1, sh_room h.2.2 zc1' zc5', e1, e2, nI_toInt hx, nI_toInt hy] at zc15'
             simpa using zc15')
      · refine g_iconst (v := 1) dX5_hasRoom_18 rfl ?_
        refine g_goto (tgt := 23) dX5_hasRoom_19 (by decide) ?_
        refine g_zret dX5_hasRoom_23 rfl (Or.inr rfl) ⟨_, rfl, ?_⟩
        have zc1' : ¬ i < 0 := by simpa using zc1
        have zc5' : ¬ n < 0 := by simpa using zc5
        have zc15' : ¬ i > w_i w r 4 - n := by simpa using zc15
        rw [h.2.1, sh_room h.2.2 zc1' zc5', Classical.not_not] at zc15'
        have e0 : (0 : Int32).toInt = 0 := by decide
        rw [pI_lt, e0] at zc1' zc5'
        exact kt _ _ (pI_nat (by omega)) (pI_nat (by omega)) zc15'
/-- room for m elements, m told -/
theorem c_X5_hasRoomN {d : Nat} {w : gx_W} {r a ln m : Nat} {i n : Int32} {k : Int32 → gx_W → Prop} (h : isSn w r a ln) (hm : m < 2 ^ 31) (hn : n = nI m) (kt : ∀ x : Nat, i = nI x → x + m ≤ ln → k 1 w) (kf : (∀ x : Nat, x < 2 ^ 31 → i = nI x → ¬ x + m ≤ ln) → k 0 w) : gx_C 0 0 d mX5_hasRoom [.ref r, .int i, .int n] w (Qi k) := by
  refine c_X5_hasRoom (Nat.zero_le _) h (fun x y h1 h2 h3 => ?_) (fun hno => ?_)
  · have h4 := h.2.2
    have e : y = m := by
      rw [hn] at h2
      exact (pI_inj hm (by omega) h2).symm
    exact kt x h1 (by omega)
  · exact kf (fun x hx e => hno x m hx hm e hn)
theorem c_X5_valueAt {d : Nat} {w : gx_W} {r a ln : Nat} {i : Int32} {k : Int64 → gx_W → Prop} (hd : 1 ≤ d) (h : isSn w r a ln) (kt : ∀ x : Nat, i = nI x → x < ln → k (w_l w a x) w) (kf : (∀ x : Nat, x < 2 ^ 31 → i = nI x → ¬ x < ln) → k 0 w) : gx_C 0 0 d mX5_valueAt [.ref r, .int i] w (Ql k) := by
  refine gx_C_of' (L := [.ref r, .int i]) (by decide +kernel) rfl (Nat.le_of_ble_eq_true rfl) ?_
  refine g_aload_n dX5_valueAt_0 rfl ?_
  refine g_iload_n dX5_valueAt_1 rfl ?_
  refine g_iconst (v := 1) dX5_valueAt_2 rfl ?_
  refine g_cV2i dX5_valueAt_3 ml_X5_43 mi_X5_hasRoom mv_X5_hasRoom h.1.1 ⟨_, rfl, rfl⟩ (Nat.le_of_ble_eq_true rfl) rfl (by omega) ?_
  refine c_X5_hasRoomN (m := 1) h (by decide) rfl (fun x hx hxl => ?_) (fun hno => ?_)
  · refine g_if_eq (tgt := 18) dX5_valueAt_6 (by decide) (fun q => absurd q (by decide)) (fun _ => ?_)
    refine g_aload_n dX5_valueAt_9 rfl ?_
    refine g_getr dX5_valueAt_10 fl_X5_9 h.1.1 h.1.2.1 ?_
    refine g_iload_n dX5_valueAt_13 rfl ?_
    refine g_lald dX5_valueAt_14 h.1.2.2 (by rw [hx]; exact vp_in_nI (by have := h.2.2; omega) (by omega)) ?_
    refine g_goto (tgt := 19) dX5_valueAt_15 (by decide) ?_
    refine g_lret dX5_valueAt_19 rfl ⟨_, rfl, ?_⟩
    rw [hx, nI_n (by have := h.2.2; omega)]
    exact kt x hx (by omega)
  · refine g_if_eq (tgt := 18) dX5_valueAt_6 (by decide) (fun _ => ?_) (fun q => absurd q (by decide))
    refine g_lconst (v := 0) dX5_valueAt_18 rfl ?_
    refine g_lret dX5_valueAt_19 rfl ⟨_, rfl, ?_⟩
    exact kf (fun x h1 h2 h3 => hno x h1 h2 (by omega))
theorem c_X5_small {d : Nat} {w : gx_W} {r a ln : Nat} {i : Int32} {k : Int32 → gx_W → Prop} (hd : 2 ≤ d) (h : isSn w r a ln) (kt : ∀ x : Nat, i = nI x → x < ln → k (w_l w a x).toInt32 w) (kf : (∀ x : Nat, x < 2 ^ 31 → i = nI x → ¬ x < ln) → k 0 w) : gx_C 0 0 d mX5_small [.ref r, .int i] w (Qi k) := by
  refine gx_C_of' (L := [.ref r, .int i]) (by decide +kernel) rfl (Nat.le_of_ble_eq_true rfl) ?_
  refine g_aload_n dX5_small_0 rfl ?_
  refine g_iload_n dX5_small_1 rfl ?_
  refine g_cV1l dX5_small_2 ml_X5_47 mi_X5_valueAt mv_X5_valueAt h.1.1 ⟨_, rfl, rfl⟩ (Nat.le_of_ble_eq_true rfl) rfl (by omega) ?_
  refine c_X5_valueAt (by omega) h (fun x hx hxl => ?_) (fun hno => ?_)
  · refine g_l2i dX5_small_5 ?_
    refine g_iret dX5_small_6 rfl ⟨_, rfl, ?_⟩
    first | exact kt x hx hxl | exact kf hno
  · refine g_l2i dX5_small_5 ?_
    refine g_iret dX5_small_6 rfl ⟨_, rfl, ?_⟩
    first | exact kt x hx hxl | exact kf hno
theorem c_X5_narrowed {d : Nat} {w : gx_W} {r a : Nat} {v : Int64} {k : Int64 → gx_W → Prop} (hd : 0 ≤ d) (h : isSh w r a) (kk : k (sh_nar (w_i w r 3) v) w) : gx_C 0 0 d mX5_narrowed [.ref r, .long v] w (Ql k) := by
  refine gx_C_of' (L := [.ref r, .long v, .retAddr 0]) (by decide +kernel) rfl (Nat.le_of_ble_eq_true rfl) ?_
  refine g_aload_n dX5_narrowed_0 rfl ?_
  refine g_geti dX5_narrowed_1 fl_X5_19 h.1 ?_
  by_cases s4_0 : w_i w r 3 = 0
  · refine g_tableIn (off := 32) (tgt := 36) dX5_narrowed_4 (by rw [s4_0]; decide) (by rw [s4_0]; decide) (by rw [s4_0]; rfl) (by decide) ?_
    refine g_lload_n dX5_narrowed_36 rfl ?_
    refine g_l2i dX5_narrowed_37 ?_
    refine g_i2b dX5_narrowed_38 ?_
    refine g_i2l dX5_narrowed_39 ?_
    refine g_lret dX5_narrowed_40 rfl ⟨_, rfl, ?_⟩
    unfold sh_nar at kk
    first | (simp only [s4_0, s4_1, s4_2, s4_3, lg_cmp_eq, if_true, if_false] at *; first | exact kk | (simp_all; done)) | (simp_all [lg_cmp_eq]; done)
  by_cases s4_1 : w_i w r 3 = 1
  · refine g_tableIn (off := 37) (tgt := 41) dX5_narrowed_4 (by rw [s4_1]; decide) (by rw [s4_1]; decide) (by rw [s4_1]; rfl) (by decide) ?_
    refine g_lload_n dX5_narrowed_41 rfl ?_
    refine g_l2i dX5_narrowed_42 ?_
    refine g_i2s dX5_narrowed_43 ?_
    refine g_i2l dX5_narrowed_44 ?_
    refine g_lret dX5_narrowed_45 rfl ⟨_, rfl, ?_⟩
    unfold sh_nar at kk
    first | (simp only [s4_0, s4_1, s4_2, s4_3, lg_cmp_eq, if_true, if_false] at *; first | exact kk | (simp_all; done)) | (simp_all [lg_cmp_eq]; done)
  by_cases s4_2 : w_i w r 3 = 2
  · refine g_tableIn (off := 42) (tgt := 46) dX5_narrowed_4 (by rw [s4_2]; decide) (by rw [s4_2]; decide) (by rw [s4_2]; rfl) (by decide) ?_
    refine g_lload_n dX5_narrowed_46 rfl ?_
    refine g_l2i dX5_narrowed_47 ?_
    refine g_i2l dX5_narrowed_48 ?_
    refine g_lret dX5_narrowed_49 rfl ⟨_, rfl, ?_⟩
    unfold sh_nar at kk
    first | (simp only [s4_0, s4_1, s4_2, s4_3, lg_cmp_eq, if_true, if_false] at *; first | exact kk | (simp_all; done)) | (simp_all [lg_cmp_eq]; done)
  by_cases s4_3 : w_i w r 3 = 3
  · refine g_tableIn (off := 46) (tgt := 50) dX5_narrowed_4 (by rw [s4_3]; decide) (by rw [s4_3]; decide) (by rw [s4_3]; rfl) (by decide) ?_
    refine g_lload_n dX5_narrowed_50 rfl ?_
    refine g_lret dX5_narrowed_51 rfl ⟨_, rfl, ?_⟩
    unfold sh_nar at kk
    first | (simp only [s4_0, s4_1, s4_2, s4_3, lg_cmp_eq, if_true, if_false] at *; first | exact kk | (simp_all; done)) | (simp_all [lg_cmp_eq]; done)
  refine g_tableOut (tgt := 52) dX5_narrowed_4 (by have z0 := lv_neT s4_0 (a := 0) (by decide); have z1 := lv_neT s4_1 (a := 1) (by decide); have z2 := lv_neT s4_2 (a := 2) (by decide); have z3 := lv_neT s4_3 (a := 3) (by decide); omega) (by decide) ?_
  refine g_lload_n dX5_narrowed_52 rfl ?_
  refine g_lconst (v := 0) dX5_narrowed_53 rfl ?_
  refine g_lcmp dX5_narrowed_54 ?_
  refine g_if_eq (tgt := 62) dX5_narrowed_55 (by decide) (fun zc55 => ?_) (fun zc55 => ?_)
  · refine g_lconst (v := 0) dX5_narrowed_62 rfl ?_
    refine g_lret dX5_narrowed_63 rfl ⟨_, rfl, ?_⟩
    unfold sh_nar at kk
    first | (simp only [s4_0, s4_1, s4_2, s4_3, lg_cmp_eq, if_true, if_false] at *; first | exact kk | (simp_all; done)) | (simp_all [lg_cmp_eq]; done)
  · refine g_lconst (v := 1) dX5_narrowed_58 rfl ?_
    refine g_goto (tgt := 63) dX5_narrowed_59 (by decide) ?_
    refine g_lret dX5_narrowed_63 rfl ⟨_, rfl, ?_⟩
    unfold sh_nar at kk
    first | (simp only [s4_0, s4_1, s4_2, s4_3, lg_cmp_eq, if_true, if_false] at *; first | exact kk | (simp_all; done)) | (simp_all [lg_cmp_eq]; done)
theorem c_X5_write {d : Nat} {w : gx_W} {r a ln : Nat} {i : Int32} {v : Int64} {k : gx_W → Prop} (hd : 1 ≤ d) (h : isSn w r a ln) (kt : ∀ x : Nat, i = nI x → x < ln → k (s_l w a (va_up (w_l w a) x (sh_nar (w_i w r 3) v)))) (kf : (∀ x : Nat, x < 2 ^ 31 → i = nI x → ¬ x < ln) → k w) : gx_C 0 0 d mX5_write [.ref r, .int i, .long v] w (Qv k) := by
  refine gx_C_of' (L := [.ref r, .int i, .long v, .retAddr 0]) (by decide +kernel) rfl (Nat.le_of_ble_eq_true rfl) ?_
  refine g_aload_n dX5_write_0 rfl ?_
  refine g_iload_n dX5_write_1 rfl ?_
  refine g_iconst (v := 1) dX5_write_2 rfl ?_
  refine g_cV2i dX5_write_3 ml_X5_43 mi_X5_hasRoom mv_X5_hasRoom h.1.1 ⟨_, rfl, rfl⟩ (Nat.le_of_ble_eq_true rfl) rfl (by omega) ?_
  refine c_X5_hasRoomN (m := 1) h (by decide) rfl (fun x hx hxl => ?_) (fun hno => ?_)
  · refine g_if_eq (tgt := 20) dX5_write_6 (by decide) (fun q => absurd q (by decide)) (fun _ => ?_)
    refine g_aload_n dX5_write_9 rfl ?_
    refine g_getr dX5_write_10 fl_X5_9 h.1.1 h.1.2.1 ?_
    refine g_iload_n dX5_write_13 rfl ?_
    refine g_aload_n dX5_write_14 rfl ?_
    refine g_lload_n dX5_write_15 rfl ?_
    refine g_cV1l dX5_write_16 ml_X5_51 mi_X5_narrowed mv_X5_narrowed h.1.1 ⟨_, rfl, rfl⟩ (Nat.le_of_ble_eq_true rfl) rfl (by omega) ?_
    refine c_X5_narrowed (by omega) h.1 ?_
    refine g_last dX5_write_19 h.1.2.2 (by rw [hx]; exact vp_in_nI (by have := h.2.2; omega) (by omega)) ?_
    refine g_vret dX5_write_20 rfl ⟨rfl, ?_⟩
    first | exact kf (fun x h1 h2 h3 => hno x h1 h2 (by omega)) | (rw [hx, nI_n (by have := h.2.2; omega)]; exact kt x hx (by omega))
  · refine g_if_eq (tgt := 20) dX5_write_6 (by decide) (fun _ => ?_) (fun q => absurd q (by decide))
    refine g_vret dX5_write_20 rfl ⟨rfl, ?_⟩
    first | exact kf (fun x h1 h2 h3 => hno x h1 h2 (by omega)) | (rw [hx, nI_n (by have := h.2.2; omega)]; exact kt x hx (by omega))
theorem l_J7_fill_d0a16 {d a N : Nat} {v : Int64} {w : gx_W} {k : gx_W → Prop} (hN : N < 2 ^ 31) (ha : w.1[a]? = some (23, N)) (kk : k (s_l w a (fun j => if j < N then v else w_l w a j))) : ∀ m i : Nat, i + m = N → gx_G 0 0 d mJ7_fill_d0a16 (Qv k) 6 [.ref a, .long v, .retAddr 0, .int (nI i), .int (nI N)] [] (s_l w a (fun j => if j < i then v else w_l w a j)) := by
  intro m
  induction m with
  | zero =>
    intro i hi
    have e : i = N := by omega
    subst e
    refine g_iload_n dJ7_fill_d0a16_6 rfl ?_
    refine g_iload dJ7_fill_d0a16_7 rfl ?_
    refine g_icmp_ge (tgt := 22) dJ7_fill_d0a16_9 (by decide) (fun _ => ?_) (fun z => absurd (Int32.le_refl _) z)
    exact g_vret dJ7_fill_d0a16_22 rfl ⟨rfl, kk⟩
  | succ m ih =>
    intro i hi
    have hlt : i < N := by omega
    refine g_iload_n dJ7_fill_d0a16_6 rfl ?_
    refine g_iload dJ7_fill_d0a16_7 rfl ?_
    refine g_icmp_ge (tgt := 22) dJ7_fill_d0a16_9 (by decide) (fun zc9 => ?_) (fun zc9 => ?_)
    · refine g_vret dJ7_fill_d0a16_22 rfl ⟨rfl, ?_⟩
      exact absurd (show nI i ≥ nI N from zc9) (nI_ge hlt hN)
    · refine g_aload_n dJ7_fill_d0a16_12 rfl ?_
      refine g_iload_n dJ7_fill_d0a16_13 rfl ?_
      refine g_lload_n dJ7_fill_d0a16_14 rfl ?_
      refine g_last dJ7_fill_d0a16_15 ha (vp_in_nI hlt hN) ?_
      refine g_iinc dJ7_fill_d0a16_16 rfl rfl ?_
      refine g_goto (tgt := 6) dJ7_fill_d0a16_19 (by decide) ?_
      rw [nI_n (by omega), s_l_l, nI_1']
      show gx_G 0 0 d mJ7_fill_d0a16 (Qv k) 6 _ [] (s_l w a (va_up (va_up (w.2.2.2.2.1) a (fun j => if j < i then v else w_l w a j) a) i v))
      rw [va_up_at, sh_fill]
      exact ih (i + 1) (by omega)
theorem c_J7_fill_d0a16 {d : Nat} {w : gx_W} {a N : Nat} {v : Int64} {k : gx_W → Prop} (hd : 0 ≤ d) (hN : N < 2 ^ 31) (ha : w.1[a]? = some (23, N)) (kk : k (s_l w a (fun j => if j < N then v else w_l w a j))) : gx_C 0 0 d mJ7_fill_d0a16 [.ref a, .long v] w (Qv k) := by
  refine gx_C_ofF (L := [.ref a, .long v, .retAddr 0, .retAddr 0, .retAddr 0]) (by decide +kernel) rfl (Nat.le_of_ble_eq_true rfl) ?_
  refine g_iconst (v := 0) dJ7_fill_d0a16_0 rfl ?_
  refine g_istore_n dJ7_fill_d0a16_1 (Nat.le_of_ble_eq_true rfl) rfl ?_
  refine g_aload_n dJ7_fill_d0a16_2 rfl ?_
  refine g_alen dJ7_fill_d0a16_3 ha (by decide) ?_
  refine g_istore dJ7_fill_d0a16_4 (Nat.le_of_ble_eq_true rfl) rfl ?_
  have e0 : w = s_l w a (fun j => if j < 0 then v else w_l w a j) := by
    show w = (w.1, w.2.1, w.2.2.1, w.2.2.2.1, va_up w.2.2.2.2.1 a (fun j => if j < 0 then v else w_l w a j), w.2.2.2.2.2)
    have e1 : va_up w.2.2.2.2.1 a (fun j => if j < 0 then v else w_l w a j) = w.2.2.2.2.1 := by
      funext q
      by_cases h : q = a
      · subst h; rw [va_up_at]; funext j; rw [if_neg (by omega)]; rfl
      · rw [va_up_row h]
    rw [e1]
  have K := l_J7_fill_d0a16 (d := d) hN ha kk N 0 (by omega)
  rw [← e0] at K
  exact K
theorem l_J7_fill_53178 {d a N : Nat} {v : Int32} {w : gx_W} {k : gx_W → Prop} (hN : N < 2 ^ 31) (ha : w.1[a]? = some (20, N)) (kk : k (s_a w a (fun j => if j < N then v else w_a w a j))) : ∀ m i : Nat, i + m = N → gx_G 0 0 d mJ7_fill_53178 (Qv k) 5 [.ref a, .int v, .int (nI i), .int (nI N)] [] (s_a w a (fun j => if j < i then v else w_a w a j)) := by
  intro m
  induction m with
  | zero =>
    intro i hi
    have e : i = N := by omega
    subst e
    refine g_iload_n dJ7_fill_53178_5 rfl ?_
    refine g_iload_n dJ7_fill_53178_6 rfl ?_
    refine g_icmp_ge (tgt := 20) dJ7_fill_53178_7 (by decide) (fun _ => ?_) (fun z => absurd (Int32.le_refl _) z)
    exact g_vret dJ7_fill_53178_20 rfl ⟨rfl, kk⟩
  | succ m ih =>
    intro i hi
    have hlt : i < N := by omega
    refine g_iload_n dJ7_fill_53178_5 rfl ?_
    refine g_iload_n dJ7_fill_53178_6 rfl ?_
    refine g_icmp_ge (tgt := 20) dJ7_fill_53178_7 (by decide) (fun zc7 => ?_) (fun zc7 => ?_)
    · refine g_vret dJ7_fill_53178_20 rfl ⟨rfl, ?_⟩
      exact absurd (show nI i ≥ nI N from zc7) (nI_ge hlt hN)
    · refine g_aload_n dJ7_fill_53178_10 rfl ?_
      refine g_iload_n dJ7_fill_53178_11 rfl ?_
      refine g_iload_n dJ7_fill_53178_12 rfl ?_
      refine g_iast dJ7_fill_53178_13 ha (vp_in_nI hlt hN) ?_
      refine g_iinc dJ7_fill_53178_14 rfl rfl ?_
      refine g_goto (tgt := 5) dJ7_fill_53178_17 (by decide) ?_
      rw [nI_n (by omega), s_a_a, nI_1']
      show gx_G 0 0 d mJ7_fill_53178 (Qv k) 5 _ [] (s_a w a (va_up (va_up (w.2.2.2.1) a (fun j => if j < i then v else w_a w a j) a) i v))
      rw [va_up_at, sh_fill]
      exact ih (i + 1) (by omega)
theorem c_J7_fill_53178 {d : Nat} {w : gx_W} {a N : Nat} {v : Int32} {k : gx_W → Prop} (hd : 0 ≤ d) (hN : N < 2 ^ 31) (ha : w.1[a]? = some (20, N)) (kk : k (s_a w a (fun j => if j < N then v else w_a w a j))) : gx_C 0 0 d mJ7_fill_53178 [.ref a, .int v] w (Qv k) := by
  refine gx_C_ofF (L := [.ref a, .int v, .retAddr 0, .retAddr 0]) (by decide +kernel) rfl (Nat.le_of_ble_eq_true rfl) ?_
  refine g_iconst (v := 0) dJ7_fill_53178_0 rfl ?_
  refine g_istore_n dJ7_fill_53178_1 (Nat.le_of_ble_eq_true rfl) rfl ?_
  refine g_aload_n dJ7_fill_53178_2 rfl ?_
  refine g_alen dJ7_fill_53178_3 ha (by decide) ?_
  refine g_istore_n dJ7_fill_53178_4 (Nat.le_of_ble_eq_true rfl) rfl ?_
  have e0 : w = s_a w a (fun j => if j < 0 then v else w_a w a j) := by
    show w = (w.1, w.2.1, w.2.2.1, va_up w.2.2.2.1 a (fun j => if j < 0 then v else w_a w a j), w.2.2.2.2)
    have e1 : va_up w.2.2.2.1 a (fun j => if j < 0 then v else w_a w a j) = w.2.2.2.1 := by
      funext q
      by_cases h : q = a
      · subst h; rw [va_up_at]; funext j; rw [if_neg (by omega)]; rfl
      · rw [va_up_row h]
    rw [e1]
  have K := l_J7_fill_53178 (d := d) hN ha kk N 0 (by omega)
  rw [← e0] at K
  exact K
theorem c_X5_holdRow {d : Nat} {w : gx_W} {r a m : Nat} {of : Int32} {k : gx_W → Prop} (hd : 1 ≤ d) (h : isSh w r a) (hm : m ≤ 60) (kk : k (s_l (s_i (s_i (s_i w r 1 2) r 3 of) r 4 (nI m)) a (fun j => if j < 60 then 0 else w_l w a j))) : gx_C 0 0 d mX5_holdRow [.ref r, .int of, .int (nI m)] w (Qv k) := by
  refine gx_C_of' (L := [.ref r, .int of, .int (nI m)]) (by decide +kernel) rfl (Nat.le_of_ble_eq_true rfl) ?_
  refine g_aload_n dX5_holdRow_0 rfl ?_
  refine g_iconst (v := 2) dX5_holdRow_1 rfl ?_
  refine g_puti dX5_holdRow_2 fl_X5_15 ft_5_1 h.1 ?_
  refine g_aload_n dX5_holdRow_5 rfl ?_
  refine g_iload_n dX5_holdRow_6 rfl ?_
  refine g_puti dX5_holdRow_7 fl_X5_19 ft_5_3 h.1 ?_
  refine g_aload_n dX5_holdRow_10 rfl ?_
  refine g_iconst (v := 0) dX5_holdRow_11 rfl ?_
  refine g_iload_n dX5_holdRow_12 rfl ?_
  refine g_bipush (v := 60) dX5_holdRow_13 rfl ?_
  refine g_cS2i dX5_holdRow_15 ml_X5_28 mi_J9_min_7cf53 ms_J9_min_7cf53 (Nat.le_of_ble_eq_true rfl) rfl (by omega) ?_
  refine c_J9_min_7cf53 (by omega) ?_
  refine g_cS2i dX5_holdRow_18 ml_X5_34 mi_J9_max_7cf53 ms_J9_max_7cf53 (Nat.le_of_ble_eq_true rfl) rfl (by omega) ?_
  refine c_J9_max_7cf53 (by omega) ?_
  rw [sh_clamp hm]
  refine g_puti dX5_holdRow_21 fl_X5_22 ft_5_4 h.1 ?_
  refine g_aload_n dX5_holdRow_24 rfl ?_
  refine g_getr dX5_holdRow_25 fl_X5_9 h.1 h.2.1 ?_
  refine g_lconst (v := 0) dX5_holdRow_28 rfl ?_
  refine g_cS2v dX5_holdRow_29 ml_X5_37 mi_J7_fill_d0a16 ms_J7_fill_d0a16 (Nat.le_of_ble_eq_true rfl) rfl (by omega) ?_
  refine c_J7_fill_d0a16 (by omega) (by decide) h.2.2 ?_
  refine g_vret dX5_holdRow_32 rfl ⟨rfl, ?_⟩
  exact kk
theorem l_X5_comers {d r a ln m : Nat} (hd : 3 ≤ d) {w : gx_W} {k : Int32 → gx_W → Prop} (h : isSn w r a ln) (hm : m ≤ 60) (kk : k (nI (sh_com (fun j => isCo (w_l w a j).toInt32) (min m ln))) w) : ∀ z i : Nat, i + z = 61 → i ≤ min m ln → (∀ j, j < i → isCo (w_l w a j).toInt32 = true) → gx_G 0 0 d mX5_comers (Qi k) 2 [.ref r, .int (nI m), .int (nI i)] [] w := by
  intro z
  induction z with
  | zero => intro i hi hle; omega
  | succ z ih =>
    intro i hi hle hall
    have hb := h.2.2
    refine g_iload_n dX5_comers_2 rfl ?_
    refine g_iload_n dX5_comers_3 rfl ?_
    refine g_icmp_ge (tgt := 33) dX5_comers_4 (by decide) (fun zc4 => ?_) (fun zc4 => ?_)
    · refine g_iload_n dX5_comers_33 rfl ?_
      refine g_iret dX5_comers_34 rfl ⟨_, rfl, ?_⟩
      first
        | (have hge : m ≤ i := by
             have zc4' : nI i ≥ nI m := zc4
             rw [pI_ge, nI_toInt (by omega), nI_toInt (by omega)] at zc4'
             omega
           have e : i = min m ln := by omega
           rw [sh_com_all _ _ (fun j hj => hall j (by omega)), ← e] at kk
           exact kk)
        | (have hge : ln ≤ i := by
             have := hno i (by omega) rfl
             omega
           have e : i = min m ln := by omega
           rw [sh_com_all _ _ (fun j hj => hall j (by omega)), ← e] at kk
           exact kk)
        | (exfalso; exact hno i (by omega) rfl (by have := pI_inj (a := i) (b := x) (by omega) (by omega) hx; omega))
        | (have ex := pI_inj (a := i) (b := x) (by omega) (by omega) hx
           have ey := pI_inj (a := i) (b := y) (by omega) (by omega) hy
           subst ex
           subst ey
           have hlt : nI i < nI m := by simpa using zc4
           have hlt2 : i < m := by
             rw [pI_lt, nI_toInt (by omega), nI_toInt (by omega)] at hlt
             omega
           rw [sh_com_at _ (min m ln) i (by omega) hall hc] at kk
           exact kk)
    · refine g_aload_n dX5_comers_7 rfl ?_
      refine g_iload_n dX5_comers_8 rfl ?_
      refine g_iconst (v := 1) dX5_comers_9 rfl ?_
      refine g_cV2i dX5_comers_10 ml_X5_43 mi_X5_hasRoom mv_X5_hasRoom h.1.1 ⟨_, rfl, rfl⟩ (Nat.le_of_ble_eq_true rfl) rfl (by omega) ?_
      refine c_X5_hasRoomN (m := 1) h (by decide) rfl (fun x hx hxl => ?_) (fun hno => ?_)
      · refine g_if_eq (tgt := 33) dX5_comers_13 (by decide) (fun q => absurd q (by decide)) (fun _ => ?_)
        refine g_aload_n dX5_comers_16 rfl ?_
        refine g_iload_n dX5_comers_17 rfl ?_
        refine g_cV1i dX5_comers_18 ml_X5_55 mi_X5_small mv_X5_small h.1.1 ⟨_, rfl, rfl⟩ (Nat.le_of_ble_eq_true rfl) rfl (by omega) ?_
        refine c_X5_small (by omega) h (fun y hy hyl => ?_) (fun hno => ?_)
        · refine g_cS1i dX5_comers_21 ml_X5_59 mi_X9_isComer ms_X9_isComer (Nat.le_of_ble_eq_true rfl) rfl (by omega) ?_
          refine c_X9_isComer (by omega) (fun hc => ?_) (fun hc => ?_)
          · refine g_if_eq (tgt := 33) dX5_comers_24 (by decide) (fun q => absurd q (by decide)) (fun _ => ?_)
            refine g_iinc dX5_comers_27 rfl rfl ?_
            refine g_goto (tgt := 2) dX5_comers_30 (by decide) ?_
            first
              | (exfalso; exact hno i (by omega) rfl (by have := pI_inj (by omega) (by omega) hx; omega))
              | (have ex := pI_inj (a := i) (b := x) (by omega) (by omega) hx
                 have ey := pI_inj (a := i) (b := y) (by omega) (by omega) hy
                 subst ex
                 subst ey
                 rw [nI_1']
                 have hlt : nI i < nI m := by simpa using zc4
                 have hlt2 : i < m := by
                   rw [pI_lt, nI_toInt (by omega), nI_toInt (by omega)] at hlt
                   omega
                 refine ih (i + 1) (by omega) (by omega) (fun j hj => ?_)
                 by_cases e : j = i
                 · subst e; exact hc
                 · exact hall j (by omega))
          · refine g_if_eq (tgt := 33) dX5_comers_24 (by decide) (fun _ => ?_) (fun q => absurd q (by decide))
            refine g_iload_n dX5_comers_33 rfl ?_
            refine g_iret dX5_comers_34 rfl ⟨_, rfl, ?_⟩
            first
              | (have hge : m ≤ i := by
                   have zc4' : nI i ≥ nI m := zc4
                   rw [pI_ge, nI_toInt (by omega), nI_toInt (by omega)] at zc4'
                   omega
                 have e : i = min m ln := by omega
                 rw [sh_com_all _ _ (fun j hj => hall j (by omega)), ← e] at kk
                 exact kk)
              | (have hge : ln ≤ i := by
                   have := hno i (by omega) rfl
                   omega
                 have e : i = min m ln := by omega
                 rw [sh_com_all _ _ (fun j hj => hall j (by omega)), ← e] at kk
                 exact kk)
              | (exfalso; exact hno i (by omega) rfl (by have := pI_inj (a := i) (b := x) (by omega) (by omega) hx; omega))
              | (have ex := pI_inj (a := i) (b := x) (by omega) (by omega) hx
                 have ey := pI_inj (a := i) (b := y) (by omega) (by omega) hy
                 subst ex
                 subst ey
                 have hlt : nI i < nI m := by simpa using zc4
                 have hlt2 : i < m := by
                   rw [pI_lt, nI_toInt (by omega), nI_toInt (by omega)] at hlt
                   omega
                 rw [sh_com_at _ (min m ln) i (by omega) hall hc] at kk
                 exact kk)
        · refine g_cS1i dX5_comers_21 ml_X5_59 mi_X9_isComer ms_X9_isComer (Nat.le_of_ble_eq_true rfl) rfl (by omega) ?_
          refine c_X9_isComer (by omega) (fun hc => ?_) (fun hc => ?_)
          · refine g_if_eq (tgt := 33) dX5_comers_24 (by decide) (fun q => absurd q (by decide)) (fun _ => ?_)
            refine g_iinc dX5_comers_27 rfl rfl ?_
            refine g_goto (tgt := 2) dX5_comers_30 (by decide) ?_
            first
              | (exfalso; exact hno i (by omega) rfl (by have := pI_inj (by omega) (by omega) hx; omega))
              | (have ex := pI_inj (a := i) (b := x) (by omega) (by omega) hx
                 have ey := pI_inj (a := i) (b := y) (by omega) (by omega) hy
                 subst ex
                 subst ey
                 rw [nI_1']
                 have hlt : nI i < nI m := by simpa using zc4
                 have hlt2 : i < m := by
                   rw [pI_lt, nI_toInt (by omega), nI_toInt (by omega)] at hlt
                   omega
                 refine ih (i + 1) (by omega) (by omega) (fun j hj => ?_)
                 by_cases e : j = i
                 · subst e; exact hc
                 · exact hall j (by omega))
          · refine g_if_eq (tgt := 33) dX5_comers_24 (by decide) (fun _ => ?_) (fun q => absurd q (by decide))
            refine g_iload_n dX5_comers_33 rfl ?_
            refine g_iret dX5_comers_34 rfl ⟨_, rfl, ?_⟩
            first
              | (have hge : m ≤ i := by
                   have zc4' : nI i ≥ nI m := zc4
                   rw [pI_ge, nI_toInt (by omega), nI_toInt (by omega)] at zc4'
                   omega
                 have e : i = min m ln := by omega
                 rw [sh_com_all _ _ (fun j hj => hall j (by omega)), ← e] at kk
                 exact kk)
              | (have hge : ln ≤ i := by
                   have := hno i (by omega) rfl
                   omega
                 have e : i = min m ln := by omega
                 rw [sh_com_all _ _ (fun j hj => hall j (by omega)), ← e] at kk
                 exact kk)
              | (exfalso; exact hno i (by omega) rfl (by have := pI_inj (a := i) (b := x) (by omega) (by omega) hx; omega))
              | (have ex := pI_inj (a := i) (b := x) (by omega) (by omega) hx
                 have ey := pI_inj (a := i) (b := y) (by omega) (by omega) hy
                 subst ex
                 subst ey
                 have hlt : nI i < nI m := by simpa using zc4
                 have hlt2 : i < m := by
                   rw [pI_lt, nI_toInt (by omega), nI_toInt (by omega)] at hlt
                   omega
                 rw [sh_com_at _ (min m ln) i (by omega) hall hc] at kk
                 exact kk)
      · refine g_if_eq (tgt := 33) dX5_comers_13 (by decide) (fun _ => ?_) (fun q => absurd q (by decide))
        refine g_iload_n dX5_comers_33 rfl ?_
        refine g_iret dX5_comers_34 rfl ⟨_, rfl, ?_⟩
        first
          | (have hge : m ≤ i := by
               have zc4' : nI i ≥ nI m := zc4
               rw [pI_ge, nI_toInt (by omega), nI_toInt (by omega)] at zc4'
               omega
             have e : i = min m ln := by omega
             rw [sh_com_all _ _ (fun j hj => hall j (by omega)), ← e] at kk
             exact kk)
          | (have hge : ln ≤ i := by
               have := hno i (by omega) rfl
               omega
             have e : i = min m ln := by omega
             rw [sh_com_all _ _ (fun j hj => hall j (by omega)), ← e] at kk
             exact kk)
          | (exfalso; exact hno i (by omega) rfl (by have := pI_inj (a := i) (b := x) (by omega) (by omega) hx; omega))
          | (have ex := pI_inj (a := i) (b := x) (by omega) (by omega) hx
             have ey := pI_inj (a := i) (b := y) (by omega) (by omega) hy
             subst ex
             subst ey
             have hlt : nI i < nI m := by simpa using zc4
             have hlt2 : i < m := by
               rw [pI_lt, nI_toInt (by omega), nI_toInt (by omega)] at hlt
               omega
             rw [sh_com_at _ (min m ln) i (by omega) hall hc] at kk
             exact kk)
theorem c_X5_comers {d : Nat} {w : gx_W} {r a ln m : Nat} {k : Int32 → gx_W → Prop} (hd : 3 ≤ d) (h : isSn w r a ln) (hm : m ≤ 60) (kk : k (nI (sh_com (fun j => isCo (w_l w a j).toInt32) (min m ln))) w) : gx_C 0 0 d mX5_comers [.ref r, .int (nI m)] w (Qi k) := by
  refine gx_C_of' (L := [.ref r, .int (nI m), .retAddr 0]) (by decide +kernel) rfl (Nat.le_of_ble_eq_true rfl) ?_
  refine g_iconst (v := 0) dX5_comers_0 rfl ?_
  refine g_istore_n dX5_comers_1 (Nat.le_of_ble_eq_true rfl) rfl ?_
  exact l_X5_comers hd h hm kk 61 0 (by omega) (by omega) (fun j hj => by omega)
