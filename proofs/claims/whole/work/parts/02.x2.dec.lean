theorem dX2_init_0 : decode cX2_init 0 = .ok (.aload_n 0, 1) := by decide +kernel
theorem dX2_init_1 : decode cX2_init 1 = .ok (.invokespecial 3, 3) := by decide +kernel
theorem dX2_init_4 : decode cX2_init 4 = .ok (.aload_n 0, 1) := by decide +kernel
theorem dX2_init_5 : decode cX2_init 5 = .ok (.iconst 4, 1) := by decide +kernel
theorem dX2_init_6 : decode cX2_init 6 = .ok (.newarray .int, 2) := by decide +kernel
theorem dX2_init_8 : decode cX2_init 8 = .ok (.dup, 1) := by decide +kernel
theorem dX2_init_9 : decode cX2_init 9 = .ok (.iconst 0, 1) := by decide +kernel
theorem dX2_init_10 : decode cX2_init 10 = .ok (.iconst (-1), 1) := by decide +kernel
theorem dX2_init_11 : decode cX2_init 11 = .ok (.iastore, 1) := by decide +kernel
theorem dX2_init_12 : decode cX2_init 12 = .ok (.dup, 1) := by decide +kernel
theorem dX2_init_13 : decode cX2_init 13 = .ok (.iconst 1, 1) := by decide +kernel
theorem dX2_init_14 : decode cX2_init 14 = .ok (.iconst (-1), 1) := by decide +kernel
theorem dX2_init_15 : decode cX2_init 15 = .ok (.iastore, 1) := by decide +kernel
theorem dX2_init_16 : decode cX2_init 16 = .ok (.dup, 1) := by decide +kernel
theorem dX2_init_17 : decode cX2_init 17 = .ok (.iconst 2, 1) := by decide +kernel
theorem dX2_init_18 : decode cX2_init 18 = .ok (.iconst (-1), 1) := by decide +kernel
theorem dX2_init_19 : decode cX2_init 19 = .ok (.iastore, 1) := by decide +kernel
theorem dX2_init_20 : decode cX2_init 20 = .ok (.dup, 1) := by decide +kernel
theorem dX2_init_21 : decode cX2_init 21 = .ok (.iconst 3, 1) := by decide +kernel
theorem dX2_init_22 : decode cX2_init 22 = .ok (.iconst (-1), 1) := by decide +kernel
theorem dX2_init_23 : decode cX2_init 23 = .ok (.iastore, 1) := by decide +kernel
theorem dX2_init_24 : decode cX2_init 24 = .ok (.putfield 9, 3) := by decide +kernel
theorem dX2_init_27 : decode cX2_init 27 = .ok (.aload_n 0, 1) := by decide +kernel
theorem dX2_init_28 : decode cX2_init 28 = .ok (.iconst 4, 1) := by decide +kernel
theorem dX2_init_29 : decode cX2_init 29 = .ok (.newarray .int, 2) := by decide +kernel
theorem dX2_init_31 : decode cX2_init 31 = .ok (.putfield 15, 3) := by decide +kernel
theorem dX2_init_34 : decode cX2_init 34 = .ok (.aload_n 0, 1) := by decide +kernel
theorem dX2_init_35 : decode cX2_init 35 = .ok (.bipush 64, 2) := by decide +kernel
theorem dX2_init_37 : decode cX2_init 37 = .ok (.newarray .long, 2) := by decide +kernel
theorem dX2_init_39 : decode cX2_init 39 = .ok (.putfield 18, 3) := by decide +kernel
theorem dX2_init_42 : decode cX2_init 42 = .ok (.return_, 1) := by decide +kernel
theorem dX2_holds_0 : decode cX2_holds 0 = .ok (.aload_n 0, 1) := by decide +kernel
theorem dX2_holds_1 : decode cX2_holds 1 = .ok (.getfield 9, 3) := by decide +kernel
theorem dX2_holds_4 : decode cX2_holds 4 = .ok (.iload_n 1, 1) := by decide +kernel
theorem dX2_holds_5 : decode cX2_holds 5 = .ok (.iaload, 1) := by decide +kernel
theorem dX2_holds_6 : decode cX2_holds 6 = .ok (.iconst (-1), 1) := by decide +kernel
theorem dX2_holds_7 : decode cX2_holds 7 = .ok (.if_icmp .eq 7, 3) := by decide +kernel
theorem dX2_holds_10 : decode cX2_holds 10 = .ok (.iconst 1, 1) := by decide +kernel
theorem dX2_holds_11 : decode cX2_holds 11 = .ok (.goto 4, 3) := by decide +kernel
theorem dX2_holds_14 : decode cX2_holds 14 = .ok (.iconst 0, 1) := by decide +kernel
theorem dX2_holds_15 : decode cX2_holds 15 = .ok (.ireturn, 1) := by decide +kernel
theorem dX2_faultOf_0 : decode cX2_faultOf 0 = .ok (.iload_n 1, 1) := by decide +kernel
theorem dX2_faultOf_1 : decode cX2_faultOf 1 = .ok (.invokestatic 22, 3) := by decide +kernel
theorem dX2_faultOf_4 : decode cX2_faultOf 4 = .ok (.ifCond .eq 10, 3) := by decide +kernel
theorem dX2_faultOf_7 : decode cX2_faultOf 7 = .ok (.iload_n 2, 1) := by decide +kernel
theorem dX2_faultOf_8 : decode cX2_faultOf 8 = .ok (.invokestatic 26, 3) := by decide +kernel
theorem dX2_faultOf_11 : decode cX2_faultOf 11 = .ok (.ifCond .ne 5, 3) := by decide +kernel
theorem dX2_faultOf_14 : decode cX2_faultOf 14 = .ok (.iconst (-1), 1) := by decide +kernel
theorem dX2_faultOf_15 : decode cX2_faultOf 15 = .ok (.ireturn, 1) := by decide +kernel
theorem dX2_faultOf_16 : decode cX2_faultOf 16 = .ok (.aload_n 0, 1) := by decide +kernel
theorem dX2_faultOf_17 : decode cX2_faultOf 17 = .ok (.iload_n 1, 1) := by decide +kernel
theorem dX2_faultOf_18 : decode cX2_faultOf 18 = .ok (.invokevirtual 29, 3) := by decide +kernel
theorem dX2_faultOf_21 : decode cX2_faultOf 21 = .ok (.ifCond .ne 6, 3) := by decide +kernel
theorem dX2_faultOf_24 : decode cX2_faultOf 24 = .ok (.bipush (-11), 2) := by decide +kernel
theorem dX2_faultOf_26 : decode cX2_faultOf 26 = .ok (.ireturn, 1) := by decide +kernel
theorem dX2_faultOf_27 : decode cX2_faultOf 27 = .ok (.aload_n 0, 1) := by decide +kernel
theorem dX2_faultOf_28 : decode cX2_faultOf 28 = .ok (.getfield 9, 3) := by decide +kernel
theorem dX2_faultOf_31 : decode cX2_faultOf 31 = .ok (.iload_n 1, 1) := by decide +kernel
theorem dX2_faultOf_32 : decode cX2_faultOf 32 = .ok (.iaload, 1) := by decide +kernel
theorem dX2_faultOf_33 : decode cX2_faultOf 33 = .ok (.iload_n 2, 1) := by decide +kernel
theorem dX2_faultOf_34 : decode cX2_faultOf 34 = .ok (.if_icmp .eq 6, 3) := by decide +kernel
theorem dX2_faultOf_37 : decode cX2_faultOf 37 = .ok (.bipush (-12), 2) := by decide +kernel
theorem dX2_faultOf_39 : decode cX2_faultOf 39 = .ok (.ireturn, 1) := by decide +kernel
theorem dX2_faultOf_40 : decode cX2_faultOf 40 = .ok (.aload_n 0, 1) := by decide +kernel
theorem dX2_faultOf_41 : decode cX2_faultOf 41 = .ok (.iload_n 1, 1) := by decide +kernel
theorem dX2_faultOf_42 : decode cX2_faultOf 42 = .ok (.iload_n 3, 1) := by decide +kernel
theorem dX2_faultOf_43 : decode cX2_faultOf 43 = .ok (.iload 4, 2) := by decide +kernel
theorem dX2_faultOf_45 : decode cX2_faultOf 45 = .ok (.invokevirtual 32, 3) := by decide +kernel
theorem dX2_faultOf_48 : decode cX2_faultOf 48 = .ok (.ifCond .eq 7, 3) := by decide +kernel
theorem dX2_faultOf_51 : decode cX2_faultOf 51 = .ok (.iconst 0, 1) := by decide +kernel
theorem dX2_faultOf_52 : decode cX2_faultOf 52 = .ok (.goto 5, 3) := by decide +kernel
theorem dX2_faultOf_55 : decode cX2_faultOf 55 = .ok (.bipush (-13), 2) := by decide +kernel
theorem dX2_faultOf_57 : decode cX2_faultOf 57 = .ok (.ireturn, 1) := by decide +kernel
theorem dX2_reaches_0 : decode cX2_reaches 0 = .ok (.iload_n 2, 1) := by decide +kernel
theorem dX2_reaches_1 : decode cX2_reaches 1 = .ok (.ifCond .lt 33, 3) := by decide +kernel
theorem dX2_reaches_4 : decode cX2_reaches 4 = .ok (.iload_n 3, 1) := by decide +kernel
theorem dX2_reaches_5 : decode cX2_reaches 5 = .ok (.ifCond .lt 29, 3) := by decide +kernel
theorem dX2_reaches_8 : decode cX2_reaches 8 = .ok (.iload_n 2, 1) := by decide +kernel
theorem dX2_reaches_9 : decode cX2_reaches 9 = .ok (.aload_n 0, 1) := by decide +kernel
theorem dX2_reaches_10 : decode cX2_reaches 10 = .ok (.getfield 15, 3) := by decide +kernel
theorem dX2_reaches_13 : decode cX2_reaches 13 = .ok (.iload_n 1, 1) := by decide +kernel
theorem dX2_reaches_14 : decode cX2_reaches 14 = .ok (.iaload, 1) := by decide +kernel
theorem dX2_reaches_15 : decode cX2_reaches 15 = .ok (.if_icmp .gt 19, 3) := by decide +kernel
theorem dX2_reaches_18 : decode cX2_reaches 18 = .ok (.iload_n 3, 1) := by decide +kernel
theorem dX2_reaches_19 : decode cX2_reaches 19 = .ok (.aload_n 0, 1) := by decide +kernel
theorem dX2_reaches_20 : decode cX2_reaches 20 = .ok (.getfield 15, 3) := by decide +kernel
theorem dX2_reaches_23 : decode cX2_reaches 23 = .ok (.iload_n 1, 1) := by decide +kernel
theorem dX2_reaches_24 : decode cX2_reaches 24 = .ok (.iaload, 1) := by decide +kernel
theorem dX2_reaches_25 : decode cX2_reaches 25 = .ok (.iload_n 2, 1) := by decide +kernel
theorem dX2_reaches_26 : decode cX2_reaches 26 = .ok (.isub, 1) := by decide +kernel
theorem dX2_reaches_27 : decode cX2_reaches 27 = .ok (.if_icmp .gt 7, 3) := by decide +kernel
theorem dX2_reaches_30 : decode cX2_reaches 30 = .ok (.iconst 1, 1) := by decide +kernel
theorem dX2_reaches_31 : decode cX2_reaches 31 = .ok (.goto 4, 3) := by decide +kernel
theorem dX2_reaches_34 : decode cX2_reaches 34 = .ok (.iconst 0, 1) := by decide +kernel
theorem dX2_reaches_35 : decode cX2_reaches 35 = .ok (.ireturn, 1) := by decide +kernel
theorem dX2_begin_0 : decode cX2_begin 0 = .ok (.aload_n 0, 1) := by decide +kernel
theorem dX2_begin_1 : decode cX2_begin 1 = .ok (.getfield 9, 3) := by decide +kernel
theorem dX2_begin_4 : decode cX2_begin 4 = .ok (.iload_n 1, 1) := by decide +kernel
theorem dX2_begin_5 : decode cX2_begin 5 = .ok (.iload_n 2, 1) := by decide +kernel
theorem dX2_begin_6 : decode cX2_begin 6 = .ok (.iastore, 1) := by decide +kernel
theorem dX2_begin_7 : decode cX2_begin 7 = .ok (.aload_n 0, 1) := by decide +kernel
theorem dX2_begin_8 : decode cX2_begin 8 = .ok (.getfield 15, 3) := by decide +kernel
theorem dX2_begin_11 : decode cX2_begin 11 = .ok (.iload_n 1, 1) := by decide +kernel
theorem dX2_begin_12 : decode cX2_begin 12 = .ok (.iload_n 3, 1) := by decide +kernel
theorem dX2_begin_13 : decode cX2_begin 13 = .ok (.iastore, 1) := by decide +kernel
theorem dX2_begin_14 : decode cX2_begin 14 = .ok (.iconst 0, 1) := by decide +kernel
theorem dX2_begin_15 : decode cX2_begin 15 = .ok (.istore 4, 2) := by decide +kernel
theorem dX2_begin_17 : decode cX2_begin 17 = .ok (.iload 4, 2) := by decide +kernel
theorem dX2_begin_19 : decode cX2_begin 19 = .ok (.bipush 16, 2) := by decide +kernel
theorem dX2_begin_21 : decode cX2_begin 21 = .ok (.if_icmp .ge 22, 3) := by decide +kernel
theorem dX2_begin_24 : decode cX2_begin 24 = .ok (.aload_n 0, 1) := by decide +kernel
theorem dX2_begin_25 : decode cX2_begin 25 = .ok (.getfield 18, 3) := by decide +kernel
theorem dX2_begin_28 : decode cX2_begin 28 = .ok (.iload_n 1, 1) := by decide +kernel
theorem dX2_begin_29 : decode cX2_begin 29 = .ok (.bipush 16, 2) := by decide +kernel
theorem dX2_begin_31 : decode cX2_begin 31 = .ok (.imul, 1) := by decide +kernel
theorem dX2_begin_32 : decode cX2_begin 32 = .ok (.iload 4, 2) := by decide +kernel
theorem dX2_begin_34 : decode cX2_begin 34 = .ok (.iadd, 1) := by decide +kernel
theorem dX2_begin_35 : decode cX2_begin 35 = .ok (.lconst 0, 1) := by decide +kernel
theorem dX2_begin_36 : decode cX2_begin 36 = .ok (.lastore, 1) := by decide +kernel
theorem dX2_begin_37 : decode cX2_begin 37 = .ok (.iinc 4 1, 3) := by decide +kernel
theorem dX2_begin_40 : decode cX2_begin 40 = .ok (.goto (-23), 3) := by decide +kernel
theorem dX2_begin_43 : decode cX2_begin 43 = .ok (.return_, 1) := by decide +kernel
theorem dX2_at_0 : decode cX2_at 0 = .ok (.aload_n 0, 1) := by decide +kernel
theorem dX2_at_1 : decode cX2_at 1 = .ok (.getfield 18, 3) := by decide +kernel
theorem dX2_at_4 : decode cX2_at 4 = .ok (.iload_n 1, 1) := by decide +kernel
theorem dX2_at_5 : decode cX2_at 5 = .ok (.bipush 16, 2) := by decide +kernel
theorem dX2_at_7 : decode cX2_at 7 = .ok (.imul, 1) := by decide +kernel
theorem dX2_at_8 : decode cX2_at 8 = .ok (.iload_n 2, 1) := by decide +kernel
theorem dX2_at_9 : decode cX2_at 9 = .ok (.iadd, 1) := by decide +kernel
theorem dX2_at_10 : decode cX2_at 10 = .ok (.laload, 1) := by decide +kernel
theorem dX2_at_11 : decode cX2_at 11 = .ok (.lreturn, 1) := by decide +kernel
theorem dX2_put_0 : decode cX2_put 0 = .ok (.aload_n 0, 1) := by decide +kernel
theorem dX2_put_1 : decode cX2_put 1 = .ok (.getfield 18, 3) := by decide +kernel
theorem dX2_put_4 : decode cX2_put 4 = .ok (.iload_n 1, 1) := by decide +kernel
theorem dX2_put_5 : decode cX2_put 5 = .ok (.bipush 16, 2) := by decide +kernel
theorem dX2_put_7 : decode cX2_put 7 = .ok (.imul, 1) := by decide +kernel
theorem dX2_put_8 : decode cX2_put 8 = .ok (.iload_n 2, 1) := by decide +kernel
theorem dX2_put_9 : decode cX2_put 9 = .ok (.iadd, 1) := by decide +kernel
theorem dX2_put_10 : decode cX2_put 10 = .ok (.aload_n 0, 1) := by decide +kernel
theorem dX2_put_11 : decode cX2_put 11 = .ok (.getfield 9, 3) := by decide +kernel
theorem dX2_put_14 : decode cX2_put 14 = .ok (.iload_n 1, 1) := by decide +kernel
theorem dX2_put_15 : decode cX2_put 15 = .ok (.iaload, 1) := by decide +kernel
theorem dX2_put_16 : decode cX2_put 16 = .ok (.lload_n 3, 1) := by decide +kernel
theorem dX2_put_17 : decode cX2_put 17 = .ok (.invokestatic 36, 3) := by decide +kernel
theorem dX2_put_20 : decode cX2_put 20 = .ok (.lastore, 1) := by decide +kernel
theorem dX2_put_21 : decode cX2_put 21 = .ok (.return_, 1) := by decide +kernel
theorem dX2_lowest_0 : decode cX2_lowest 0 = .ok (.iload_n 0, 1) := by decide +kernel
theorem dX2_lowest_1 : decode cX2_lowest 1 = .ok (.tableswitch 41 0 2 #[27, 32, 37], 27) := by decide +kernel
theorem dX2_lowest_28 : decode cX2_lowest 28 = .ok (.lload_n 1, 1) := by decide +kernel
theorem dX2_lowest_29 : decode cX2_lowest 29 = .ok (.l2i, 1) := by decide +kernel
theorem dX2_lowest_30 : decode cX2_lowest 30 = .ok (.i2b, 1) := by decide +kernel
theorem dX2_lowest_31 : decode cX2_lowest 31 = .ok (.i2l, 1) := by decide +kernel
theorem dX2_lowest_32 : decode cX2_lowest 32 = .ok (.lreturn, 1) := by decide +kernel
theorem dX2_lowest_33 : decode cX2_lowest 33 = .ok (.lload_n 1, 1) := by decide +kernel
theorem dX2_lowest_34 : decode cX2_lowest 34 = .ok (.l2i, 1) := by decide +kernel
theorem dX2_lowest_35 : decode cX2_lowest 35 = .ok (.i2s, 1) := by decide +kernel
theorem dX2_lowest_36 : decode cX2_lowest 36 = .ok (.i2l, 1) := by decide +kernel
theorem dX2_lowest_37 : decode cX2_lowest 37 = .ok (.lreturn, 1) := by decide +kernel
theorem dX2_lowest_38 : decode cX2_lowest 38 = .ok (.lload_n 1, 1) := by decide +kernel
theorem dX2_lowest_39 : decode cX2_lowest 39 = .ok (.l2i, 1) := by decide +kernel
theorem dX2_lowest_40 : decode cX2_lowest 40 = .ok (.i2l, 1) := by decide +kernel
theorem dX2_lowest_41 : decode cX2_lowest 41 = .ok (.lreturn, 1) := by decide +kernel
theorem dX2_lowest_42 : decode cX2_lowest 42 = .ok (.lload_n 1, 1) := by decide +kernel
theorem dX2_lowest_43 : decode cX2_lowest 43 = .ok (.lreturn, 1) := by decide +kernel
theorem dX2_move_0 : decode cX2_move 0 = .ok (.aload_n 0, 1) := by decide +kernel
theorem dX2_move_1 : decode cX2_move 1 = .ok (.getfield 18, 3) := by decide +kernel
theorem dX2_move_4 : decode cX2_move 4 = .ok (.iload_n 1, 1) := by decide +kernel
theorem dX2_move_5 : decode cX2_move 5 = .ok (.bipush 16, 2) := by decide +kernel
theorem dX2_move_7 : decode cX2_move 7 = .ok (.imul, 1) := by decide +kernel
theorem dX2_move_8 : decode cX2_move 8 = .ok (.iload_n 2, 1) := by decide +kernel
theorem dX2_move_9 : decode cX2_move 9 = .ok (.iadd, 1) := by decide +kernel
theorem dX2_move_10 : decode cX2_move 10 = .ok (.aload_n 0, 1) := by decide +kernel
theorem dX2_move_11 : decode cX2_move 11 = .ok (.getfield 18, 3) := by decide +kernel
theorem dX2_move_14 : decode cX2_move 14 = .ok (.iload_n 3, 1) := by decide +kernel
theorem dX2_move_15 : decode cX2_move 15 = .ok (.bipush 16, 2) := by decide +kernel
theorem dX2_move_17 : decode cX2_move 17 = .ok (.imul, 1) := by decide +kernel
theorem dX2_move_18 : decode cX2_move 18 = .ok (.iload 4, 2) := by decide +kernel
theorem dX2_move_20 : decode cX2_move 20 = .ok (.iadd, 1) := by decide +kernel
theorem dX2_move_21 : decode cX2_move 21 = .ok (.iload 5, 2) := by decide +kernel
theorem dX2_move_23 : decode cX2_move 23 = .ok (.invokestatic 40, 3) := by decide +kernel
theorem dX2_move_26 : decode cX2_move 26 = .ok (.return_, 1) := by decide +kernel
theorem dX3_init_0 : decode cX3_init 0 = .ok (.aload_n 0, 1) := by decide +kernel
theorem dX3_init_1 : decode cX3_init 1 = .ok (.invokespecial 3, 3) := by decide +kernel
theorem dX3_init_4 : decode cX3_init 4 = .ok (.aload_n 0, 1) := by decide +kernel
theorem dX3_init_5 : decode cX3_init 5 = .ok (.bipush 80, 2) := by decide +kernel
theorem dX3_init_7 : decode cX3_init 7 = .ok (.newarray .char, 2) := by decide +kernel
theorem dX3_init_9 : decode cX3_init 9 = .ok (.putfield 9, 3) := by decide +kernel
theorem dX3_init_12 : decode cX3_init 12 = .ok (.aload_n 0, 1) := by decide +kernel
theorem dX3_init_13 : decode cX3_init 13 = .ok (.iconst 0, 1) := by decide +kernel
theorem dX3_init_14 : decode cX3_init 14 = .ok (.putfield 15, 3) := by decide +kernel
theorem dX3_init_17 : decode cX3_init 17 = .ok (.aload_n 0, 1) := by decide +kernel
theorem dX3_init_18 : decode cX3_init 18 = .ok (.iconst 0, 1) := by decide +kernel
theorem dX3_init_19 : decode cX3_init 19 = .ok (.putfield 19, 3) := by decide +kernel
theorem dX3_init_22 : decode cX3_init 22 = .ok (.aload_n 0, 1) := by decide +kernel
theorem dX3_init_23 : decode cX3_init 23 = .ok (.iconst 0, 1) := by decide +kernel
theorem dX3_init_24 : decode cX3_init 24 = .ok (.putfield 22, 3) := by decide +kernel
theorem dX3_init_27 : decode cX3_init 27 = .ok (.return_, 1) := by decide +kernel
theorem dX3_add_0 : decode cX3_add 0 = .ok (.aload_n 0, 1) := by decide +kernel
theorem dX3_add_1 : decode cX3_add 1 = .ok (.getfield 15, 3) := by decide +kernel
theorem dX3_add_4 : decode cX3_add 4 = .ok (.aload_n 0, 1) := by decide +kernel
theorem dX3_add_5 : decode cX3_add 5 = .ok (.getfield 9, 3) := by decide +kernel
theorem dX3_add_8 : decode cX3_add 8 = .ok (.arraylength, 1) := by decide +kernel
theorem dX3_add_9 : decode cX3_add 9 = .ok (.if_icmp .lt 5, 3) := by decide +kernel
theorem dX3_add_12 : decode cX3_add 12 = .ok (.iconst 0, 1) := by decide +kernel
theorem dX3_add_13 : decode cX3_add 13 = .ok (.ireturn, 1) := by decide +kernel
theorem dX3_add_14 : decode cX3_add 14 = .ok (.aload_n 0, 1) := by decide +kernel
theorem dX3_add_15 : decode cX3_add 15 = .ok (.getfield 9, 3) := by decide +kernel
theorem dX3_add_18 : decode cX3_add 18 = .ok (.aload_n 0, 1) := by decide +kernel
theorem dX3_add_19 : decode cX3_add 19 = .ok (.getfield 15, 3) := by decide +kernel
theorem dX3_add_22 : decode cX3_add 22 = .ok (.iload_n 1, 1) := by decide +kernel
theorem dX3_add_23 : decode cX3_add 23 = .ok (.castore, 1) := by decide +kernel
theorem dX3_add_24 : decode cX3_add 24 = .ok (.aload_n 0, 1) := by decide +kernel
theorem dX3_add_25 : decode cX3_add 25 = .ok (.dup, 1) := by decide +kernel
theorem dX3_add_26 : decode cX3_add 26 = .ok (.getfield 15, 3) := by decide +kernel
theorem dX3_add_29 : decode cX3_add 29 = .ok (.iconst 1, 1) := by decide +kernel
theorem dX3_add_30 : decode cX3_add 30 = .ok (.iadd, 1) := by decide +kernel
theorem dX3_add_31 : decode cX3_add 31 = .ok (.putfield 15, 3) := by decide +kernel
theorem dX3_add_34 : decode cX3_add 34 = .ok (.iconst 1, 1) := by decide +kernel
theorem dX3_add_35 : decode cX3_add 35 = .ok (.ireturn, 1) := by decide +kernel
theorem dX3_readInto_0 : decode cX3_readInto 0 = .ok (.aload_n 0, 1) := by decide +kernel
theorem dX3_readInto_1 : decode cX3_readInto 1 = .ok (.iconst 0, 1) := by decide +kernel
theorem dX3_readInto_2 : decode cX3_readInto 2 = .ok (.putfield 19, 3) := by decide +kernel
theorem dX3_readInto_5 : decode cX3_readInto 5 = .ok (.iconst 0, 1) := by decide +kernel
theorem dX3_readInto_6 : decode cX3_readInto 6 = .ok (.istore_n 2, 1) := by decide +kernel
theorem dX3_readInto_7 : decode cX3_readInto 7 = .ok (.iload_n 2, 1) := by decide +kernel
theorem dX3_readInto_8 : decode cX3_readInto 8 = .ok (.aload_n 0, 1) := by decide +kernel
theorem dX3_readInto_9 : decode cX3_readInto 9 = .ok (.getfield 15, 3) := by decide +kernel
theorem dX3_readInto_12 : decode cX3_readInto 12 = .ok (.if_icmp .ge 36, 3) := by decide +kernel
theorem dX3_readInto_15 : decode cX3_readInto 15 = .ok (.aload_n 0, 1) := by decide +kernel
theorem dX3_readInto_16 : decode cX3_readInto 16 = .ok (.getfield 9, 3) := by decide +kernel
theorem dX3_readInto_19 : decode cX3_readInto 19 = .ok (.iload_n 2, 1) := by decide +kernel
theorem dX3_readInto_20 : decode cX3_readInto 20 = .ok (.caload, 1) := by decide +kernel
theorem dX3_readInto_21 : decode cX3_readInto 21 = .ok (.istore_n 3, 1) := by decide +kernel
theorem dX3_readInto_22 : decode cX3_readInto 22 = .ok (.iload_n 3, 1) := by decide +kernel
theorem dX3_readInto_23 : decode cX3_readInto 23 = .ok (.bipush 32, 2) := by decide +kernel
theorem dX3_readInto_25 : decode cX3_readInto 25 = .ok (.if_icmp .eq 17, 3) := by decide +kernel
theorem dX3_readInto_28 : decode cX3_readInto 28 = .ok (.aload_n 0, 1) := by decide +kernel
theorem dX3_readInto_29 : decode cX3_readInto 29 = .ok (.iload_n 3, 1) := by decide +kernel
theorem dX3_readInto_30 : decode cX3_readInto 30 = .ok (.aload_n 1, 1) := by decide +kernel
theorem dX3_readInto_31 : decode cX3_readInto 31 = .ok (.invokevirtual 25, 3) := by decide +kernel
theorem dX3_readInto_34 : decode cX3_readInto 34 = .ok (.ifCond .ne 8, 3) := by decide +kernel
theorem dX3_readInto_37 : decode cX3_readInto 37 = .ok (.bipush (-20), 2) := by decide +kernel
theorem dX3_readInto_39 : decode cX3_readInto 39 = .ok (.iload_n 2, 1) := by decide +kernel
theorem dX3_readInto_40 : decode cX3_readInto 40 = .ok (.isub, 1) := by decide +kernel
theorem dX3_readInto_41 : decode cX3_readInto 41 = .ok (.ireturn, 1) := by decide +kernel
theorem dX3_readInto_42 : decode cX3_readInto 42 = .ok (.iinc 2 1, 3) := by decide +kernel
theorem dX3_readInto_45 : decode cX3_readInto 45 = .ok (.goto (-38), 3) := by decide +kernel
theorem dX3_readInto_48 : decode cX3_readInto 48 = .ok (.aload_n 0, 1) := by decide +kernel
theorem dX3_readInto_49 : decode cX3_readInto 49 = .ok (.getfield 19, 3) := by decide +kernel
theorem dX3_readInto_52 : decode cX3_readInto 52 = .ok (.iconst 2, 1) := by decide +kernel
theorem dX3_readInto_53 : decode cX3_readInto 53 = .ok (.if_icmp .ne 10, 3) := by decide +kernel
theorem dX3_readInto_56 : decode cX3_readInto 56 = .ok (.aload_n 1, 1) := by decide +kernel
theorem dX3_readInto_57 : decode cX3_readInto 57 = .ok (.getfield 29, 3) := by decide +kernel
theorem dX3_readInto_60 : decode cX3_readInto 60 = .ok (.goto 10, 3) := by decide +kernel
theorem dX3_readInto_63 : decode cX3_readInto 63 = .ok (.bipush (-20), 2) := by decide +kernel
theorem dX3_readInto_65 : decode cX3_readInto 65 = .ok (.aload_n 0, 1) := by decide +kernel
theorem dX3_readInto_66 : decode cX3_readInto 66 = .ok (.getfield 15, 3) := by decide +kernel
theorem dX3_readInto_69 : decode cX3_readInto 69 = .ok (.isub, 1) := by decide +kernel
theorem dX3_readInto_70 : decode cX3_readInto 70 = .ok (.ireturn, 1) := by decide +kernel
theorem dX3_takes_0 : decode cX3_takes 0 = .ok (.aload_n 0, 1) := by decide +kernel
theorem dX3_takes_1 : decode cX3_takes 1 = .ok (.getfield 19, 3) := by decide +kernel
theorem dX3_takes_4 : decode cX3_takes 4 = .ok (.lookupswitch 41 #[(0, 28), (1, 34)], 28) := by decide +kernel
theorem dX3_takes_32 : decode cX3_takes 32 = .ok (.aload_n 0, 1) := by decide +kernel
theorem dX3_takes_33 : decode cX3_takes 33 = .ok (.iload_n 1, 1) := by decide +kernel
theorem dX3_takes_34 : decode cX3_takes 34 = .ok (.invokevirtual 34, 3) := by decide +kernel
theorem dX3_takes_37 : decode cX3_takes 37 = .ok (.ireturn, 1) := by decide +kernel
theorem dX3_takes_38 : decode cX3_takes 38 = .ok (.aload_n 0, 1) := by decide +kernel
theorem dX3_takes_39 : decode cX3_takes 39 = .ok (.iload_n 1, 1) := by decide +kernel
theorem dX3_takes_40 : decode cX3_takes 40 = .ok (.aload_n 2, 1) := by decide +kernel
theorem dX3_takes_41 : decode cX3_takes 41 = .ok (.invokevirtual 38, 3) := by decide +kernel
theorem dX3_takes_44 : decode cX3_takes 44 = .ok (.ireturn, 1) := by decide +kernel
theorem dX3_takes_45 : decode cX3_takes 45 = .ok (.iload_n 1, 1) := by decide +kernel
theorem dX3_takes_46 : decode cX3_takes 46 = .ok (.bipush 44, 2) := by decide +kernel
theorem dX3_takes_48 : decode cX3_takes 48 = .ok (.if_icmp .ne 11, 3) := by decide +kernel
theorem dX3_takes_51 : decode cX3_takes 51 = .ok (.aload_n 0, 1) := by decide +kernel
theorem dX3_takes_52 : decode cX3_takes 52 = .ok (.aload_n 2, 1) := by decide +kernel
theorem dX3_takes_53 : decode cX3_takes 53 = .ok (.invokevirtual 41, 3) := by decide +kernel
theorem dX3_takes_56 : decode cX3_takes 56 = .ok (.goto 9, 3) := by decide +kernel
theorem dX3_takes_59 : decode cX3_takes 59 = .ok (.aload_n 0, 1) := by decide +kernel
theorem dX3_takes_60 : decode cX3_takes 60 = .ok (.iload_n 1, 1) := by decide +kernel
theorem dX3_takes_61 : decode cX3_takes 61 = .ok (.aload_n 2, 1) := by decide +kernel
theorem dX3_takes_62 : decode cX3_takes 62 = .ok (.invokevirtual 45, 3) := by decide +kernel
theorem dX3_takes_65 : decode cX3_takes 65 = .ok (.ireturn, 1) := by decide +kernel
theorem dX3_takesKind_0 : decode cX3_takesKind 0 = .ok (.iload_n 1, 1) := by decide +kernel
theorem dX3_takesKind_1 : decode cX3_takesKind 1 = .ok (.lookupswitch 75 #[(97, 51), (104, 67), (112, 43), (115, 59)], 43) := by decide +kernel
theorem dX3_takesKind_44 : decode cX3_takesKind 44 = .ok (.aload_n 0, 1) := by decide +kernel
theorem dX3_takesKind_45 : decode cX3_takesKind 45 = .ok (.iconst 0, 1) := by decide +kernel
theorem dX3_takesKind_46 : decode cX3_takesKind 46 = .ok (.putfield 22, 3) := by decide +kernel
theorem dX3_takesKind_49 : decode cX3_takesKind 49 = .ok (.goto 29, 3) := by decide +kernel
theorem dX3_takesKind_52 : decode cX3_takesKind 52 = .ok (.aload_n 0, 1) := by decide +kernel
theorem dX3_takesKind_53 : decode cX3_takesKind 53 = .ok (.iconst 1, 1) := by decide +kernel
theorem dX3_takesKind_54 : decode cX3_takesKind 54 = .ok (.putfield 22, 3) := by decide +kernel
theorem dX3_takesKind_57 : decode cX3_takesKind 57 = .ok (.goto 21, 3) := by decide +kernel
theorem dX3_takesKind_60 : decode cX3_takesKind 60 = .ok (.aload_n 0, 1) := by decide +kernel
theorem dX3_takesKind_61 : decode cX3_takesKind 61 = .ok (.iconst 2, 1) := by decide +kernel
theorem dX3_takesKind_62 : decode cX3_takesKind 62 = .ok (.putfield 22, 3) := by decide +kernel
theorem dX3_takesKind_65 : decode cX3_takesKind 65 = .ok (.goto 13, 3) := by decide +kernel
theorem dX3_takesKind_68 : decode cX3_takesKind 68 = .ok (.aload_n 0, 1) := by decide +kernel
theorem dX3_takesKind_69 : decode cX3_takesKind 69 = .ok (.iconst 3, 1) := by decide +kernel
theorem dX3_takesKind_70 : decode cX3_takesKind 70 = .ok (.putfield 22, 3) := by decide +kernel
theorem dX3_takesKind_73 : decode cX3_takesKind 73 = .ok (.goto 5, 3) := by decide +kernel
theorem dX3_takesKind_76 : decode cX3_takesKind 76 = .ok (.iconst 0, 1) := by decide +kernel
theorem dX3_takesKind_77 : decode cX3_takesKind 77 = .ok (.ireturn, 1) := by decide +kernel
theorem dX3_takesKind_78 : decode cX3_takesKind 78 = .ok (.aload_n 0, 1) := by decide +kernel
theorem dX3_takesKind_79 : decode cX3_takesKind 79 = .ok (.iconst 1, 1) := by decide +kernel
theorem dX3_takesKind_80 : decode cX3_takesKind 80 = .ok (.putfield 19, 3) := by decide +kernel
theorem dX3_takesKind_83 : decode cX3_takesKind 83 = .ok (.iconst 1, 1) := by decide +kernel
theorem dX3_takesKind_84 : decode cX3_takesKind 84 = .ok (.ireturn, 1) := by decide +kernel
theorem dX3_takesDay_0 : decode cX3_takesDay 0 = .ok (.aload_n 0, 1) := by decide +kernel
theorem dX3_takesDay_1 : decode cX3_takesDay 1 = .ok (.iconst 2, 1) := by decide +kernel
theorem dX3_takesDay_2 : decode cX3_takesDay 2 = .ok (.putfield 19, 3) := by decide +kernel
theorem dX3_takesDay_5 : decode cX3_takesDay 5 = .ok (.iload_n 1, 1) := by decide +kernel
theorem dX3_takesDay_6 : decode cX3_takesDay 6 = .ok (.bipush 65, 2) := by decide +kernel
theorem dX3_takesDay_8 : decode cX3_takesDay 8 = .ok (.isub, 1) := by decide +kernel
theorem dX3_takesDay_9 : decode cX3_takesDay 9 = .ok (.istore_n 3, 1) := by decide +kernel
theorem dX3_takesDay_10 : decode cX3_takesDay 10 = .ok (.iload_n 3, 1) := by decide +kernel
theorem dX3_takesDay_11 : decode cX3_takesDay 11 = .ok (.invokestatic 48, 3) := by decide +kernel
theorem dX3_takesDay_14 : decode cX3_takesDay 14 = .ok (.ifCond .eq 20, 3) := by decide +kernel
theorem dX3_takesDay_17 : decode cX3_takesDay 17 = .ok (.aload_n 2, 1) := by decide +kernel
theorem dX3_takesDay_18 : decode cX3_takesDay 18 = .ok (.aload_n 0, 1) := by decide +kernel
theorem dX3_takesDay_19 : decode cX3_takesDay 19 = .ok (.getfield 22, 3) := by decide +kernel
theorem dX3_takesDay_22 : decode cX3_takesDay 22 = .ok (.iload_n 3, 1) := by decide +kernel
theorem dX3_takesDay_23 : decode cX3_takesDay 23 = .ok (.iconst 0, 1) := by decide +kernel
theorem dX3_takesDay_24 : decode cX3_takesDay 24 = .ok (.invokevirtual 52, 3) := by decide +kernel
theorem dX3_takesDay_27 : decode cX3_takesDay 27 = .ok (.ifCond .eq 7, 3) := by decide +kernel
theorem dX3_takesDay_30 : decode cX3_takesDay 30 = .ok (.iconst 1, 1) := by decide +kernel
theorem dX3_takesDay_31 : decode cX3_takesDay 31 = .ok (.goto 4, 3) := by decide +kernel
theorem dX3_takesDay_34 : decode cX3_takesDay 34 = .ok (.iconst 0, 1) := by decide +kernel
theorem dX3_takesDay_35 : decode cX3_takesDay 35 = .ok (.ireturn, 1) := by decide +kernel
theorem dX3_takesComma_0 : decode cX3_takesComma 0 = .ok (.aload_n 0, 1) := by decide +kernel
theorem dX3_takesComma_1 : decode cX3_takesComma 1 = .ok (.iconst 0, 1) := by decide +kernel
theorem dX3_takesComma_2 : decode cX3_takesComma 2 = .ok (.putfield 19, 3) := by decide +kernel
theorem dX3_takesComma_5 : decode cX3_takesComma 5 = .ok (.aload_n 1, 1) := by decide +kernel
theorem dX3_takesComma_6 : decode cX3_takesComma 6 = .ok (.getfield 29, 3) := by decide +kernel
theorem dX3_takesComma_9 : decode cX3_takesComma 9 = .ok (.bipush 12, 2) := by decide +kernel
theorem dX3_takesComma_11 : decode cX3_takesComma 11 = .ok (.if_icmp .ge 7, 3) := by decide +kernel
theorem dX3_takesComma_14 : decode cX3_takesComma 14 = .ok (.iconst 1, 1) := by decide +kernel
theorem dX3_takesComma_15 : decode cX3_takesComma 15 = .ok (.goto 4, 3) := by decide +kernel
theorem dX3_takesComma_18 : decode cX3_takesComma 18 = .ok (.iconst 0, 1) := by decide +kernel
theorem dX3_takesComma_19 : decode cX3_takesComma 19 = .ok (.ireturn, 1) := by decide +kernel
theorem dX3_takesNeed_0 : decode cX3_takesNeed 0 = .ok (.aload_n 2, 1) := by decide +kernel
theorem dX3_takesNeed_1 : decode cX3_takesNeed 1 = .ok (.getfield 29, 3) := by decide +kernel
theorem dX3_takesNeed_4 : decode cX3_takesNeed 4 = .ok (.iconst 1, 1) := by decide +kernel
theorem dX3_takesNeed_5 : decode cX3_takesNeed 5 = .ok (.isub, 1) := by decide +kernel
theorem dX3_takesNeed_6 : decode cX3_takesNeed 6 = .ok (.istore_n 3, 1) := by decide +kernel
theorem dX3_takesNeed_7 : decode cX3_takesNeed 7 = .ok (.iload_n 1, 1) := by decide +kernel
theorem dX3_takesNeed_8 : decode cX3_takesNeed 8 = .ok (.bipush 97, 2) := by decide +kernel
theorem dX3_takesNeed_10 : decode cX3_takesNeed 10 = .ok (.isub, 1) := by decide +kernel
theorem dX3_takesNeed_11 : decode cX3_takesNeed 11 = .ok (.istore 4, 2) := by decide +kernel
theorem dX3_takesNeed_13 : decode cX3_takesNeed 13 = .ok (.aload_n 2, 1) := by decide +kernel
theorem dX3_takesNeed_14 : decode cX3_takesNeed 14 = .ok (.iload_n 3, 1) := by decide +kernel
theorem dX3_takesNeed_15 : decode cX3_takesNeed 15 = .ok (.invokevirtual 56, 3) := by decide +kernel
theorem dX3_takesNeed_18 : decode cX3_takesNeed 18 = .ok (.ifCond .eq 12, 3) := by decide +kernel
theorem dX3_takesNeed_21 : decode cX3_takesNeed 21 = .ok (.aload_n 2, 1) := by decide +kernel
theorem dX3_takesNeed_22 : decode cX3_takesNeed 22 = .ok (.iload 4, 2) := by decide +kernel
theorem dX3_takesNeed_24 : decode cX3_takesNeed 24 = .ok (.invokevirtual 56, 3) := by decide +kernel
theorem dX3_takesNeed_27 : decode cX3_takesNeed 27 = .ok (.ifCond .ne 5, 3) := by decide +kernel
theorem dX3_takesNeed_30 : decode cX3_takesNeed 30 = .ok (.iconst 0, 1) := by decide +kernel
theorem dX3_takesNeed_31 : decode cX3_takesNeed 31 = .ok (.ireturn, 1) := by decide +kernel
theorem dX3_takesNeed_32 : decode cX3_takesNeed 32 = .ok (.aload_n 2, 1) := by decide +kernel
theorem dX3_takesNeed_33 : decode cX3_takesNeed 33 = .ok (.iload_n 3, 1) := by decide +kernel
theorem dX3_takesNeed_34 : decode cX3_takesNeed 34 = .ok (.aload_n 2, 1) := by decide +kernel
theorem dX3_takesNeed_35 : decode cX3_takesNeed 35 = .ok (.getfield 59, 3) := by decide +kernel
theorem dX3_takesNeed_38 : decode cX3_takesNeed 38 = .ok (.iload_n 3, 1) := by decide +kernel
theorem dX3_takesNeed_39 : decode cX3_takesNeed 39 = .ok (.iaload, 1) := by decide +kernel
theorem dX3_takesNeed_40 : decode cX3_takesNeed 40 = .ok (.invokevirtual 63, 3) := by decide +kernel
theorem dX3_takesNeed_43 : decode cX3_takesNeed 43 = .ok (.aload_n 2, 1) := by decide +kernel
theorem dX3_takesNeed_44 : decode cX3_takesNeed 44 = .ok (.getfield 67, 3) := by decide +kernel
theorem dX3_takesNeed_47 : decode cX3_takesNeed 47 = .ok (.iload_n 3, 1) := by decide +kernel
theorem dX3_takesNeed_48 : decode cX3_takesNeed 48 = .ok (.iaload, 1) := by decide +kernel
theorem dX3_takesNeed_49 : decode cX3_takesNeed 49 = .ok (.iconst (-1), 1) := by decide +kernel
theorem dX3_takesNeed_50 : decode cX3_takesNeed 50 = .ok (.ixor, 1) := by decide +kernel
theorem dX3_takesNeed_51 : decode cX3_takesNeed 51 = .ok (.iand, 1) := by decide +kernel
theorem dX3_takesNeed_52 : decode cX3_takesNeed 52 = .ok (.iload 4, 2) := by decide +kernel
theorem dX3_takesNeed_54 : decode cX3_takesNeed 54 = .ok (.invokestatic 70, 3) := by decide +kernel
theorem dX3_takesNeed_57 : decode cX3_takesNeed 57 = .ok (.ifCond .ne 5, 3) := by decide +kernel
theorem dX3_takesNeed_60 : decode cX3_takesNeed 60 = .ok (.iconst 0, 1) := by decide +kernel
theorem dX3_takesNeed_61 : decode cX3_takesNeed 61 = .ok (.ireturn, 1) := by decide +kernel
theorem dX3_takesNeed_62 : decode cX3_takesNeed 62 = .ok (.aload_n 2, 1) := by decide +kernel
theorem dX3_takesNeed_63 : decode cX3_takesNeed 63 = .ok (.getfield 67, 3) := by decide +kernel
theorem dX3_takesNeed_66 : decode cX3_takesNeed 66 = .ok (.iload_n 3, 1) := by decide +kernel
theorem dX3_takesNeed_67 : decode cX3_takesNeed 67 = .ok (.dup2, 1) := by decide +kernel
theorem dX3_takesNeed_68 : decode cX3_takesNeed 68 = .ok (.iaload, 1) := by decide +kernel
theorem dX3_takesNeed_69 : decode cX3_takesNeed 69 = .ok (.iconst 1, 1) := by decide +kernel
theorem dX3_takesNeed_70 : decode cX3_takesNeed 70 = .ok (.iload 4, 2) := by decide +kernel
theorem dX3_takesNeed_72 : decode cX3_takesNeed 72 = .ok (.ishl, 1) := by decide +kernel
theorem dX3_takesNeed_73 : decode cX3_takesNeed 73 = .ok (.ior, 1) := by decide +kernel
theorem dX3_takesNeed_74 : decode cX3_takesNeed 74 = .ok (.iastore, 1) := by decide +kernel
theorem dX3_takesNeed_75 : decode cX3_takesNeed 75 = .ok (.iconst 1, 1) := by decide +kernel
theorem dX3_takesNeed_76 : decode cX3_takesNeed 76 = .ok (.ireturn, 1) := by decide +kernel
theorem dX6_init_0 : decode cX6_init 0 = .ok (.aload_n 0, 1) := by decide +kernel
theorem dX6_init_1 : decode cX6_init 1 = .ok (.invokespecial 1, 3) := by decide +kernel
theorem dX6_init_4 : decode cX6_init 4 = .ok (.aload_n 0, 1) := by decide +kernel
theorem dX6_init_5 : decode cX6_init 5 = .ok (.new 7, 3) := by decide +kernel
theorem dX6_init_8 : decode cX6_init 8 = .ok (.dup, 1) := by decide +kernel
theorem dX6_init_9 : decode cX6_init 9 = .ok (.invokespecial 9, 3) := by decide +kernel
theorem dX6_init_12 : decode cX6_init 12 = .ok (.putfield 10, 3) := by decide +kernel
theorem dX6_init_15 : decode cX6_init 15 = .ok (.aload_n 0, 1) := by decide +kernel
theorem dX6_init_16 : decode cX6_init 16 = .ok (.new 7, 3) := by decide +kernel
theorem dX6_init_19 : decode cX6_init 19 = .ok (.dup, 1) := by decide +kernel
theorem dX6_init_20 : decode cX6_init 20 = .ok (.invokespecial 9, 3) := by decide +kernel
theorem dX6_init_23 : decode cX6_init 23 = .ok (.putfield 16, 3) := by decide +kernel
theorem dX6_init_26 : decode cX6_init 26 = .ok (.aload_n 0, 1) := by decide +kernel
theorem dX6_init_27 : decode cX6_init 27 = .ok (.new 7, 3) := by decide +kernel
theorem dX6_init_30 : decode cX6_init 30 = .ok (.dup, 1) := by decide +kernel
theorem dX6_init_31 : decode cX6_init 31 = .ok (.invokespecial 9, 3) := by decide +kernel
theorem dX6_init_34 : decode cX6_init 34 = .ok (.putfield 19, 3) := by decide +kernel
theorem dX6_init_37 : decode cX6_init 37 = .ok (.aload_n 0, 1) := by decide +kernel
theorem dX6_init_38 : decode cX6_init 38 = .ok (.new 22, 3) := by decide +kernel
theorem dX6_init_41 : decode cX6_init 41 = .ok (.dup, 1) := by decide +kernel
theorem dX6_init_42 : decode cX6_init 42 = .ok (.invokespecial 24, 3) := by decide +kernel
theorem dX6_init_45 : decode cX6_init 45 = .ok (.putfield 25, 3) := by decide +kernel
theorem dX6_init_48 : decode cX6_init 48 = .ok (.aload_n 0, 1) := by decide +kernel
theorem dX6_init_49 : decode cX6_init 49 = .ok (.new 29, 3) := by decide +kernel
theorem dX6_init_52 : decode cX6_init 52 = .ok (.dup, 1) := by decide +kernel
theorem dX6_init_53 : decode cX6_init 53 = .ok (.invokespecial 31, 3) := by decide +kernel
theorem dX6_init_56 : decode cX6_init 56 = .ok (.putfield 32, 3) := by decide +kernel
theorem dX6_init_59 : decode cX6_init 59 = .ok (.aload_n 0, 1) := by decide +kernel
theorem dX6_init_60 : decode cX6_init 60 = .ok (.bipush 61, 2) := by decide +kernel
theorem dX6_init_62 : decode cX6_init 62 = .ok (.newarray .int, 2) := by decide +kernel
theorem dX6_init_64 : decode cX6_init 64 = .ok (.putfield 36, 3) := by decide +kernel
theorem dX6_init_67 : decode cX6_init 67 = .ok (.aload_n 0, 1) := by decide +kernel
theorem dX6_init_68 : decode cX6_init 68 = .ok (.bipush 8, 2) := by decide +kernel
theorem dX6_init_70 : decode cX6_init 70 = .ok (.newarray .int, 2) := by decide +kernel
theorem dX6_init_72 : decode cX6_init 72 = .ok (.putfield 40, 3) := by decide +kernel
theorem dX6_init_75 : decode cX6_init 75 = .ok (.aload_n 0, 1) := by decide +kernel
theorem dX6_init_76 : decode cX6_init 76 = .ok (.iconst 4, 1) := by decide +kernel
theorem dX6_init_77 : decode cX6_init 77 = .ok (.newarray .int, 2) := by decide +kernel
theorem dX6_init_79 : decode cX6_init 79 = .ok (.putfield 43, 3) := by decide +kernel
theorem dX6_init_82 : decode cX6_init 82 = .ok (.aload_n 0, 1) := by decide +kernel
theorem dX6_init_83 : decode cX6_init 83 = .ok (.iconst 0, 1) := by decide +kernel
theorem dX6_init_84 : decode cX6_init 84 = .ok (.putfield 46, 3) := by decide +kernel
theorem dX6_init_87 : decode cX6_init 87 = .ok (.return_, 1) := by decide +kernel
theorem dX6_people_0 : decode cX6_people 0 = .ok (.iload_n 1, 1) := by decide +kernel
theorem dX6_people_1 : decode cX6_people 1 = .ok (.iconst 1, 1) := by decide +kernel
theorem dX6_people_2 : decode cX6_people 2 = .ok (.if_icmp .lt 8, 3) := by decide +kernel
theorem dX6_people_5 : decode cX6_people 5 = .ok (.iload_n 1, 1) := by decide +kernel
theorem dX6_people_6 : decode cX6_people 6 = .ok (.iconst 4, 1) := by decide +kernel
theorem dX6_people_7 : decode cX6_people 7 = .ok (.if_icmp .le 5, 3) := by decide +kernel
theorem dX6_people_10 : decode cX6_people 10 = .ok (.iconst (-1), 1) := by decide +kernel
theorem dX6_people_11 : decode cX6_people 11 = .ok (.ireturn, 1) := by decide +kernel
theorem dX6_people_12 : decode cX6_people 12 = .ok (.aload_n 0, 1) := by decide +kernel
theorem dX6_people_13 : decode cX6_people 13 = .ok (.getfield 10, 3) := by decide +kernel
theorem dX6_people_16 : decode cX6_people 16 = .ok (.getfield 50, 3) := by decide +kernel
theorem dX6_people_19 : decode cX6_people 19 = .ok (.istore_n 2, 1) := by decide +kernel
theorem dX6_people_20 : decode cX6_people 20 = .ok (.aload_n 0, 1) := by decide +kernel
theorem dX6_people_21 : decode cX6_people 21 = .ok (.getfield 10, 3) := by decide +kernel
theorem dX6_people_24 : decode cX6_people 24 = .ok (.iload_n 1, 1) := by decide +kernel
theorem dX6_people_25 : decode cX6_people 25 = .ok (.putfield 50, 3) := by decide +kernel
theorem dX6_people_28 : decode cX6_people 28 = .ok (.iload_n 2, 1) := by decide +kernel
theorem dX6_people_29 : decode cX6_people 29 = .ok (.ireturn, 1) := by decide +kernel
theorem dX6_deed_0 : decode cX6_deed 0 = .ok (.iload_n 1, 1) := by decide +kernel
theorem dX6_deed_1 : decode cX6_deed 1 = .ok (.ifCond .lt 37, 3) := by decide +kernel
theorem dX6_deed_4 : decode cX6_deed 4 = .ok (.iload_n 1, 1) := by decide +kernel
theorem dX6_deed_5 : decode cX6_deed 5 = .ok (.iconst 3, 1) := by decide +kernel
theorem dX6_deed_6 : decode cX6_deed 6 = .ok (.if_icmp .gt 32, 3) := by decide +kernel
theorem dX6_deed_9 : decode cX6_deed 9 = .ok (.iload_n 2, 1) := by decide +kernel
theorem dX6_deed_10 : decode cX6_deed 10 = .ok (.invokestatic 54, 3) := by decide +kernel
theorem dX6_deed_13 : decode cX6_deed 13 = .ok (.ifCond .eq 25, 3) := by decide +kernel
theorem dX6_deed_16 : decode cX6_deed 16 = .ok (.iload_n 3, 1) := by decide +kernel
theorem dX6_deed_17 : decode cX6_deed 17 = .ok (.aload_n 0, 1) := by decide +kernel
theorem dX6_deed_18 : decode cX6_deed 18 = .ok (.getfield 10, 3) := by decide +kernel
theorem dX6_deed_21 : decode cX6_deed 21 = .ok (.aload_n 0, 1) := by decide +kernel
theorem dX6_deed_22 : decode cX6_deed 22 = .ok (.getfield 10, 3) := by decide +kernel
theorem dX6_deed_25 : decode cX6_deed 25 = .ok (.getfield 58, 3) := by decide +kernel
theorem dX6_deed_28 : decode cX6_deed 28 = .ok (.iload_n 2, 1) := by decide +kernel
theorem dX6_deed_29 : decode cX6_deed 29 = .ok (.invokevirtual 61, 3) := by decide +kernel
theorem dX6_deed_32 : decode cX6_deed 32 = .ok (.invokestatic 65, 3) := by decide +kernel
theorem dX6_deed_35 : decode cX6_deed 35 = .ok (.ifCond .ne 5, 3) := by decide +kernel
theorem dX6_deed_38 : decode cX6_deed 38 = .ok (.iconst (-1), 1) := by decide +kernel
theorem dX6_deed_39 : decode cX6_deed 39 = .ok (.ireturn, 1) := by decide +kernel
theorem dX6_deed_40 : decode cX6_deed 40 = .ok (.aload_n 0, 1) := by decide +kernel
theorem dX6_deed_41 : decode cX6_deed 41 = .ok (.getfield 10, 3) := by decide +kernel
theorem dX6_deed_44 : decode cX6_deed 44 = .ok (.iload_n 1, 1) := by decide +kernel
theorem dX6_deed_45 : decode cX6_deed 45 = .ok (.iload_n 2, 1) := by decide +kernel
theorem dX6_deed_46 : decode cX6_deed 46 = .ok (.iload_n 3, 1) := by decide +kernel
theorem dX6_deed_47 : decode cX6_deed 47 = .ok (.invokevirtual 69, 3) := by decide +kernel
theorem dX6_deed_50 : decode cX6_deed 50 = .ok (.ifCond .eq 15, 3) := by decide +kernel
theorem dX6_deed_53 : decode cX6_deed 53 = .ok (.aload_n 0, 1) := by decide +kernel
theorem dX6_deed_54 : decode cX6_deed 54 = .ok (.getfield 10, 3) := by decide +kernel
theorem dX6_deed_57 : decode cX6_deed 57 = .ok (.getfield 58, 3) := by decide +kernel
theorem dX6_deed_60 : decode cX6_deed 60 = .ok (.iconst 1, 1) := by decide +kernel
theorem dX6_deed_61 : decode cX6_deed 61 = .ok (.isub, 1) := by decide +kernel
theorem dX6_deed_62 : decode cX6_deed 62 = .ok (.goto 5, 3) := by decide +kernel
theorem dX6_deed_65 : decode cX6_deed 65 = .ok (.bipush (-3), 2) := by decide +kernel
theorem dX6_deed_67 : decode cX6_deed 67 = .ok (.ireturn, 1) := by decide +kernel
theorem dX6_told_0 : decode cX6_told 0 = .ok (.aload_n 0, 1) := by decide +kernel
theorem dX6_told_1 : decode cX6_told 1 = .ok (.getfield 10, 3) := by decide +kernel
theorem dX6_told_4 : decode cX6_told 4 = .ok (.iload_n 1, 1) := by decide +kernel
theorem dX6_told_5 : decode cX6_told 5 = .ok (.invokevirtual 73, 3) := by decide +kernel
theorem dX6_told_8 : decode cX6_told 8 = .ok (.ifCond .ne 5, 3) := by decide +kernel
theorem dX6_told_11 : decode cX6_told 11 = .ok (.iconst (-1), 1) := by decide +kernel
theorem dX6_told_12 : decode cX6_told 12 = .ok (.ireturn, 1) := by decide +kernel
theorem dX6_told_13 : decode cX6_told 13 = .ok (.iload_n 2, 1) := by decide +kernel
theorem dX6_told_14 : decode cX6_told 14 = .ok (.tableswitch 139 0 6 #[42, 52, 62, 72, 82, 92, 119], 42) := by decide +kernel
theorem dX6_told_56 : decode cX6_told 56 = .ok (.aload_n 0, 1) := by decide +kernel
theorem dX6_told_57 : decode cX6_told 57 = .ok (.getfield 10, 3) := by decide +kernel
theorem dX6_told_60 : decode cX6_told 60 = .ok (.getfield 76, 3) := by decide +kernel
theorem dX6_told_63 : decode cX6_told 63 = .ok (.iload_n 1, 1) := by decide +kernel
theorem dX6_told_64 : decode cX6_told 64 = .ok (.iaload, 1) := by decide +kernel
theorem dX6_told_65 : decode cX6_told 65 = .ok (.ireturn, 1) := by decide +kernel
theorem dX6_told_66 : decode cX6_told 66 = .ok (.aload_n 0, 1) := by decide +kernel
theorem dX6_told_67 : decode cX6_told 67 = .ok (.getfield 10, 3) := by decide +kernel
theorem dX6_told_70 : decode cX6_told 70 = .ok (.getfield 79, 3) := by decide +kernel
theorem dX6_told_73 : decode cX6_told 73 = .ok (.iload_n 1, 1) := by decide +kernel
theorem dX6_told_74 : decode cX6_told 74 = .ok (.iaload, 1) := by decide +kernel
theorem dX6_told_75 : decode cX6_told 75 = .ok (.ireturn, 1) := by decide +kernel
theorem dX6_told_76 : decode cX6_told 76 = .ok (.aload_n 0, 1) := by decide +kernel
theorem dX6_told_77 : decode cX6_told 77 = .ok (.getfield 10, 3) := by decide +kernel
theorem dX6_told_80 : decode cX6_told 80 = .ok (.getfield 82, 3) := by decide +kernel
theorem dX6_told_83 : decode cX6_told 83 = .ok (.iload_n 1, 1) := by decide +kernel
theorem dX6_told_84 : decode cX6_told 84 = .ok (.iaload, 1) := by decide +kernel
theorem dX6_told_85 : decode cX6_told 85 = .ok (.ireturn, 1) := by decide +kernel
theorem dX6_told_86 : decode cX6_told 86 = .ok (.aload_n 0, 1) := by decide +kernel
theorem dX6_told_87 : decode cX6_told 87 = .ok (.getfield 10, 3) := by decide +kernel
theorem dX6_told_90 : decode cX6_told 90 = .ok (.getfield 85, 3) := by decide +kernel
theorem dX6_told_93 : decode cX6_told 93 = .ok (.iload_n 1, 1) := by decide +kernel
theorem dX6_told_94 : decode cX6_told 94 = .ok (.iaload, 1) := by decide +kernel
theorem dX6_told_95 : decode cX6_told 95 = .ok (.ireturn, 1) := by decide +kernel
theorem dX6_told_96 : decode cX6_told 96 = .ok (.aload_n 0, 1) := by decide +kernel
theorem dX6_told_97 : decode cX6_told 97 = .ok (.getfield 10, 3) := by decide +kernel
theorem dX6_told_100 : decode cX6_told 100 = .ok (.getfield 88, 3) := by decide +kernel
theorem dX6_told_103 : decode cX6_told 103 = .ok (.iload_n 1, 1) := by decide +kernel
theorem dX6_told_104 : decode cX6_told 104 = .ok (.iaload, 1) := by decide +kernel
theorem dX6_told_105 : decode cX6_told 105 = .ok (.ireturn, 1) := by decide +kernel
theorem dX6_told_106 : decode cX6_told 106 = .ok (.aload_n 0, 1) := by decide +kernel
theorem dX6_told_107 : decode cX6_told 107 = .ok (.getfield 10, 3) := by decide +kernel
theorem dX6_told_110 : decode cX6_told 110 = .ok (.aload_n 0, 1) := by decide +kernel
theorem dX6_told_111 : decode cX6_told 111 = .ok (.getfield 10, 3) := by decide +kernel
theorem dX6_told_114 : decode cX6_told 114 = .ok (.getfield 91, 3) := by decide +kernel
theorem dX6_told_117 : decode cX6_told 117 = .ok (.invokevirtual 94, 3) := by decide +kernel
theorem dX6_told_120 : decode cX6_told 120 = .ok (.iload_n 1, 1) := by decide +kernel
theorem dX6_told_121 : decode cX6_told 121 = .ok (.invokestatic 98, 3) := by decide +kernel
theorem dX6_told_124 : decode cX6_told 124 = .ok (.ifCond .eq 7, 3) := by decide +kernel
theorem dX6_told_127 : decode cX6_told 127 = .ok (.iconst 1, 1) := by decide +kernel
theorem dX6_told_128 : decode cX6_told 128 = .ok (.goto 4, 3) := by decide +kernel
theorem dX6_told_131 : decode cX6_told 131 = .ok (.iconst 0, 1) := by decide +kernel
theorem dX6_told_132 : decode cX6_told 132 = .ok (.ireturn, 1) := by decide +kernel
theorem dX6_told_133 : decode cX6_told 133 = .ok (.aload_n 0, 1) := by decide +kernel
theorem dX6_told_134 : decode cX6_told 134 = .ok (.getfield 10, 3) := by decide +kernel
theorem dX6_told_137 : decode cX6_told 137 = .ok (.getfield 91, 3) := by decide +kernel
theorem dX6_told_140 : decode cX6_told 140 = .ok (.iload_n 1, 1) := by decide +kernel
theorem dX6_told_141 : decode cX6_told 141 = .ok (.invokestatic 98, 3) := by decide +kernel
theorem dX6_told_144 : decode cX6_told 144 = .ok (.ifCond .eq 7, 3) := by decide +kernel
theorem dX6_told_147 : decode cX6_told 147 = .ok (.iconst 1, 1) := by decide +kernel
theorem dX6_told_148 : decode cX6_told 148 = .ok (.goto 4, 3) := by decide +kernel
theorem dX6_told_151 : decode cX6_told 151 = .ok (.iconst 0, 1) := by decide +kernel
theorem dX6_told_152 : decode cX6_told 152 = .ok (.ireturn, 1) := by decide +kernel
theorem dX6_told_153 : decode cX6_told 153 = .ok (.iconst (-1), 1) := by decide +kernel
theorem dX6_told_154 : decode cX6_told 154 = .ok (.ireturn, 1) := by decide +kernel
theorem dX6_set_0 : decode cX6_set 0 = .ok (.iload_n 2, 1) := by decide +kernel
theorem dX6_set_1 : decode cX6_set 1 = .ok (.ifCond .ne 8, 3) := by decide +kernel
theorem dX6_set_4 : decode cX6_set 4 = .ok (.bipush 9, 2) := by decide +kernel
theorem dX6_set_6 : decode cX6_set 6 = .ok (.goto 4, 3) := by decide +kernel
theorem dX6_set_9 : decode cX6_set 9 = .ok (.iconst 4, 1) := by decide +kernel
theorem dX6_set_10 : decode cX6_set 10 = .ok (.istore 4, 2) := by decide +kernel
theorem dX6_set_12 : decode cX6_set 12 = .ok (.aload_n 0, 1) := by decide +kernel
theorem dX6_set_13 : decode cX6_set 13 = .ok (.getfield 10, 3) := by decide +kernel
theorem dX6_set_16 : decode cX6_set 16 = .ok (.iload_n 1, 1) := by decide +kernel
theorem dX6_set_17 : decode cX6_set 17 = .ok (.invokevirtual 73, 3) := by decide +kernel
theorem dX6_set_20 : decode cX6_set 20 = .ok (.ifCond .eq 20, 3) := by decide +kernel
theorem dX6_set_23 : decode cX6_set 23 = .ok (.iload_n 2, 1) := by decide +kernel
theorem dX6_set_24 : decode cX6_set 24 = .ok (.invokestatic 101, 3) := by decide +kernel
theorem dX6_set_27 : decode cX6_set 27 = .ok (.ifCond .eq 13, 3) := by decide +kernel
theorem dX6_set_30 : decode cX6_set 30 = .ok (.iload_n 3, 1) := by decide +kernel
theorem dX6_set_31 : decode cX6_set 31 = .ok (.ifCond .lt 9, 3) := by decide +kernel
theorem dX6_set_34 : decode cX6_set 34 = .ok (.iload_n 3, 1) := by decide +kernel
theorem dX6_set_35 : decode cX6_set 35 = .ok (.iload 4, 2) := by decide +kernel
theorem dX6_set_37 : decode cX6_set 37 = .ok (.if_icmp .le 5, 3) := by decide +kernel
theorem dX6_set_40 : decode cX6_set 40 = .ok (.iconst (-1), 1) := by decide +kernel
theorem dX6_set_41 : decode cX6_set 41 = .ok (.ireturn, 1) := by decide +kernel
theorem dX6_set_42 : decode cX6_set 42 = .ok (.iload_n 2, 1) := by decide +kernel
theorem dX6_set_43 : decode cX6_set 43 = .ok (.ifCond .ne 13, 3) := by decide +kernel
theorem dX6_set_46 : decode cX6_set 46 = .ok (.aload_n 0, 1) := by decide +kernel
theorem dX6_set_47 : decode cX6_set 47 = .ok (.getfield 10, 3) := by decide +kernel
theorem dX6_set_50 : decode cX6_set 50 = .ok (.getfield 85, 3) := by decide +kernel
theorem dX6_set_53 : decode cX6_set 53 = .ok (.goto 10, 3) := by decide +kernel
theorem dX6_set_56 : decode cX6_set 56 = .ok (.aload_n 0, 1) := by decide +kernel
theorem dX6_set_57 : decode cX6_set 57 = .ok (.getfield 10, 3) := by decide +kernel
theorem dX6_set_60 : decode cX6_set 60 = .ok (.getfield 88, 3) := by decide +kernel
theorem dX6_set_63 : decode cX6_set 63 = .ok (.astore 5, 2) := by decide +kernel
theorem dX6_set_65 : decode cX6_set 65 = .ok (.aload 5, 2) := by decide +kernel
theorem dX6_set_67 : decode cX6_set 67 = .ok (.iload_n 1, 1) := by decide +kernel
theorem dX6_set_68 : decode cX6_set 68 = .ok (.iaload, 1) := by decide +kernel
theorem dX6_set_69 : decode cX6_set 69 = .ok (.istore 6, 2) := by decide +kernel
theorem dX6_set_71 : decode cX6_set 71 = .ok (.aload 5, 2) := by decide +kernel
theorem dX6_set_73 : decode cX6_set 73 = .ok (.iload_n 1, 1) := by decide +kernel
theorem dX6_set_74 : decode cX6_set 74 = .ok (.iload_n 3, 1) := by decide +kernel
theorem dX6_set_75 : decode cX6_set 75 = .ok (.iastore, 1) := by decide +kernel
theorem dX6_set_76 : decode cX6_set 76 = .ok (.iload 6, 2) := by decide +kernel
theorem dX6_set_78 : decode cX6_set 78 = .ok (.ireturn, 1) := by decide +kernel
theorem dX6_worth_0 : decode cX6_worth 0 = .ok (.aload_n 0, 1) := by decide +kernel
theorem dX6_worth_1 : decode cX6_worth 1 = .ok (.getfield 10, 3) := by decide +kernel
theorem dX6_worth_4 : decode cX6_worth 4 = .ok (.iload_n 1, 1) := by decide +kernel
theorem dX6_worth_5 : decode cX6_worth 5 = .ok (.invokevirtual 73, 3) := by decide +kernel
theorem dX6_worth_8 : decode cX6_worth 8 = .ok (.ifCond .eq 22, 3) := by decide +kernel
theorem dX6_worth_11 : decode cX6_worth 11 = .ok (.iload_n 2, 1) := by decide +kernel
theorem dX6_worth_12 : decode cX6_worth 12 = .ok (.invokestatic 104, 3) := by decide +kernel
theorem dX6_worth_15 : decode cX6_worth 15 = .ok (.ifCond .eq 15, 3) := by decide +kernel
theorem dX6_worth_18 : decode cX6_worth 18 = .ok (.iload_n 3, 1) := by decide +kernel
theorem dX6_worth_19 : decode cX6_worth 19 = .ok (.bipush (-9), 2) := by decide +kernel
theorem dX6_worth_21 : decode cX6_worth 21 = .ok (.if_icmp .lt 9, 3) := by decide +kernel
theorem dX6_worth_24 : decode cX6_worth 24 = .ok (.iload_n 3, 1) := by decide +kernel
theorem dX6_worth_25 : decode cX6_worth 25 = .ok (.bipush 9, 2) := by decide +kernel
theorem dX6_worth_27 : decode cX6_worth 27 = .ok (.if_icmp .le 6, 3) := by decide +kernel
theorem dX6_worth_30 : decode cX6_worth 30 = .ok (.ldc 107, 2) := by decide +kernel
theorem dX6_worth_32 : decode cX6_worth 32 = .ok (.ireturn, 1) := by decide +kernel
theorem dX6_worth_33 : decode cX6_worth 33 = .ok (.aload_n 0, 1) := by decide +kernel
theorem dX6_worth_34 : decode cX6_worth 34 = .ok (.getfield 10, 3) := by decide +kernel
theorem dX6_worth_37 : decode cX6_worth 37 = .ok (.iload_n 1, 1) := by decide +kernel
theorem dX6_worth_38 : decode cX6_worth 38 = .ok (.iload_n 2, 1) := by decide +kernel
theorem dX6_worth_39 : decode cX6_worth 39 = .ok (.invokevirtual 108, 3) := by decide +kernel
theorem dX6_worth_42 : decode cX6_worth 42 = .ok (.istore 4, 2) := by decide +kernel
theorem dX6_worth_44 : decode cX6_worth 44 = .ok (.aload_n 0, 1) := by decide +kernel
theorem dX6_worth_45 : decode cX6_worth 45 = .ok (.getfield 10, 3) := by decide +kernel
theorem dX6_worth_48 : decode cX6_worth 48 = .ok (.getfield 111, 3) := by decide +kernel
theorem dX6_worth_51 : decode cX6_worth 51 = .ok (.iload_n 1, 1) := by decide +kernel
theorem dX6_worth_52 : decode cX6_worth 52 = .ok (.iconst 4, 1) := by decide +kernel
theorem dX6_worth_53 : decode cX6_worth 53 = .ok (.imul, 1) := by decide +kernel
theorem dX6_worth_54 : decode cX6_worth 54 = .ok (.iload_n 2, 1) := by decide +kernel
theorem dX6_worth_55 : decode cX6_worth 55 = .ok (.iadd, 1) := by decide +kernel
theorem dX6_worth_56 : decode cX6_worth 56 = .ok (.iload_n 3, 1) := by decide +kernel
theorem dX6_worth_57 : decode cX6_worth 57 = .ok (.iastore, 1) := by decide +kernel
theorem dX6_worth_58 : decode cX6_worth 58 = .ok (.iload 4, 2) := by decide +kernel
theorem dX6_worth_60 : decode cX6_worth 60 = .ok (.ireturn, 1) := by decide +kernel
theorem dX6_worthOf_0 : decode cX6_worthOf 0 = .ok (.aload_n 0, 1) := by decide +kernel
theorem dX6_worthOf_1 : decode cX6_worthOf 1 = .ok (.getfield 10, 3) := by decide +kernel
theorem dX6_worthOf_4 : decode cX6_worthOf 4 = .ok (.iload_n 1, 1) := by decide +kernel
theorem dX6_worthOf_5 : decode cX6_worthOf 5 = .ok (.invokevirtual 73, 3) := by decide +kernel
theorem dX6_worthOf_8 : decode cX6_worthOf 8 = .ok (.ifCond .eq 10, 3) := by decide +kernel
theorem dX6_worthOf_11 : decode cX6_worthOf 11 = .ok (.iload_n 2, 1) := by decide +kernel
theorem dX6_worthOf_12 : decode cX6_worthOf 12 = .ok (.invokestatic 104, 3) := by decide +kernel
theorem dX6_worthOf_15 : decode cX6_worthOf 15 = .ok (.ifCond .ne 6, 3) := by decide +kernel
theorem dX6_worthOf_18 : decode cX6_worthOf 18 = .ok (.ldc 107, 2) := by decide +kernel
theorem dX6_worthOf_20 : decode cX6_worthOf 20 = .ok (.ireturn, 1) := by decide +kernel
theorem dX6_worthOf_21 : decode cX6_worthOf 21 = .ok (.aload_n 0, 1) := by decide +kernel
theorem dX6_worthOf_22 : decode cX6_worthOf 22 = .ok (.getfield 10, 3) := by decide +kernel
theorem dX6_worthOf_25 : decode cX6_worthOf 25 = .ok (.iload_n 1, 1) := by decide +kernel
theorem dX6_worthOf_26 : decode cX6_worthOf 26 = .ok (.iload_n 2, 1) := by decide +kernel
theorem dX6_worthOf_27 : decode cX6_worthOf 27 = .ok (.invokevirtual 108, 3) := by decide +kernel
theorem dX6_worthOf_30 : decode cX6_worthOf 30 = .ok (.ireturn, 1) := by decide +kernel
theorem dX6_last_0 : decode cX6_last 0 = .ok (.iload_n 1, 1) := by decide +kernel
theorem dX6_last_1 : decode cX6_last 1 = .ok (.aload_n 0, 1) := by decide +kernel
theorem dX6_last_2 : decode cX6_last 2 = .ok (.getfield 10, 3) := by decide +kernel
theorem dX6_last_5 : decode cX6_last 5 = .ok (.invokevirtual 114, 3) := by decide +kernel
theorem dX6_last_8 : decode cX6_last 8 = .ok (.invokestatic 65, 3) := by decide +kernel
theorem dX6_last_11 : decode cX6_last 11 = .ok (.ifCond .ne 5, 3) := by decide +kernel
theorem dX6_last_14 : decode cX6_last 14 = .ok (.iconst (-1), 1) := by decide +kernel
theorem dX6_last_15 : decode cX6_last 15 = .ok (.ireturn, 1) := by decide +kernel
theorem dX6_last_16 : decode cX6_last 16 = .ok (.aload_n 0, 1) := by decide +kernel
theorem dX6_last_17 : decode cX6_last 17 = .ok (.getfield 10, 3) := by decide +kernel
theorem dX6_last_20 : decode cX6_last 20 = .ok (.getfield 118, 3) := by decide +kernel
theorem dX6_last_23 : decode cX6_last 23 = .ok (.istore_n 2, 1) := by decide +kernel
theorem dX6_last_24 : decode cX6_last 24 = .ok (.aload_n 0, 1) := by decide +kernel
theorem dX6_last_25 : decode cX6_last 25 = .ok (.getfield 10, 3) := by decide +kernel
theorem dX6_last_28 : decode cX6_last 28 = .ok (.iload_n 1, 1) := by decide +kernel
theorem dX6_last_29 : decode cX6_last 29 = .ok (.putfield 118, 3) := by decide +kernel
theorem dX6_last_32 : decode cX6_last 32 = .ok (.iload_n 2, 1) := by decide +kernel
theorem dX6_last_33 : decode cX6_last 33 = .ok (.ireturn, 1) := by decide +kernel
theorem dX6_type_0 : decode cX6_type 0 = .ok (.iload_n 1, 1) := by decide +kernel
theorem dX6_type_1 : decode cX6_type 1 = .ok (.bipush 32, 2) := by decide +kernel
theorem dX6_type_3 : decode cX6_type 3 = .ok (.if_icmp .lt 9, 3) := by decide +kernel
theorem dX6_type_6 : decode cX6_type 6 = .ok (.iload_n 1, 1) := by decide +kernel
theorem dX6_type_7 : decode cX6_type 7 = .ok (.bipush 126, 2) := by decide +kernel
theorem dX6_type_9 : decode cX6_type 9 = .ok (.if_icmp .le 5, 3) := by decide +kernel
theorem dX6_type_12 : decode cX6_type 12 = .ok (.iconst (-1), 1) := by decide +kernel
theorem dX6_type_13 : decode cX6_type 13 = .ok (.ireturn, 1) := by decide +kernel
theorem dX6_type_14 : decode cX6_type 14 = .ok (.aload_n 0, 1) := by decide +kernel
theorem dX6_type_15 : decode cX6_type 15 = .ok (.getfield 25, 3) := by decide +kernel
theorem dX6_type_18 : decode cX6_type 18 = .ok (.iload_n 1, 1) := by decide +kernel
theorem dX6_type_19 : decode cX6_type 19 = .ok (.i2c, 1) := by decide +kernel
theorem dX6_type_20 : decode cX6_type 20 = .ok (.invokevirtual 121, 3) := by decide +kernel
theorem dX6_type_23 : decode cX6_type 23 = .ok (.ifCond .eq 13, 3) := by decide +kernel
theorem dX6_type_26 : decode cX6_type 26 = .ok (.aload_n 0, 1) := by decide +kernel
theorem dX6_type_27 : decode cX6_type 27 = .ok (.getfield 25, 3) := by decide +kernel
theorem dX6_type_30 : decode cX6_type 30 = .ok (.getfield 124, 3) := by decide +kernel
theorem dX6_type_33 : decode cX6_type 33 = .ok (.goto 5, 3) := by decide +kernel
theorem dX6_type_36 : decode cX6_type 36 = .ok (.bipush (-3), 2) := by decide +kernel
theorem dX6_type_38 : decode cX6_type 38 = .ok (.ireturn, 1) := by decide +kernel
theorem dX6_text_0 : decode cX6_text 0 = .ok (.aload_n 0, 1) := by decide +kernel
theorem dX6_text_1 : decode cX6_text 1 = .ok (.getfield 19, 3) := by decide +kernel
theorem dX6_text_4 : decode cX6_text 4 = .ok (.invokevirtual 127, 3) := by decide +kernel
theorem dX6_text_7 : decode cX6_text 7 = .ok (.aload_n 0, 1) := by decide +kernel
theorem dX6_text_8 : decode cX6_text 8 = .ok (.getfield 25, 3) := by decide +kernel
theorem dX6_text_11 : decode cX6_text 11 = .ok (.aload_n 0, 1) := by decide +kernel
theorem dX6_text_12 : decode cX6_text 12 = .ok (.getfield 19, 3) := by decide +kernel
theorem dX6_text_15 : decode cX6_text 15 = .ok (.invokevirtual 130, 3) := by decide +kernel
theorem dX6_text_18 : decode cX6_text 18 = .ok (.istore_n 1, 1) := by decide +kernel
theorem dX6_text_19 : decode cX6_text 19 = .ok (.aload_n 0, 1) := by decide +kernel
theorem dX6_text_20 : decode cX6_text 20 = .ok (.getfield 25, 3) := by decide +kernel
theorem dX6_text_23 : decode cX6_text 23 = .ok (.iconst 0, 1) := by decide +kernel
theorem dX6_text_24 : decode cX6_text 24 = .ok (.putfield 124, 3) := by decide +kernel
theorem dX6_text_27 : decode cX6_text 27 = .ok (.iload_n 1, 1) := by decide +kernel
theorem dX6_text_28 : decode cX6_text 28 = .ok (.ifCond .le 42, 3) := by decide +kernel
theorem dX6_text_31 : decode cX6_text 31 = .ok (.aload_n 0, 1) := by decide +kernel
theorem dX6_text_32 : decode cX6_text 32 = .ok (.getfield 19, 3) := by decide +kernel
theorem dX6_text_35 : decode cX6_text 35 = .ok (.aload_n 0, 1) := by decide +kernel
theorem dX6_text_36 : decode cX6_text 36 = .ok (.getfield 10, 3) := by decide +kernel
theorem dX6_text_39 : decode cX6_text 39 = .ok (.getfield 50, 3) := by decide +kernel
theorem dX6_text_42 : decode cX6_text 42 = .ok (.putfield 50, 3) := by decide +kernel
theorem dX6_text_45 : decode cX6_text 45 = .ok (.aload_n 0, 1) := by decide +kernel
theorem dX6_text_46 : decode cX6_text 46 = .ok (.getfield 19, 3) := by decide +kernel
theorem dX6_text_49 : decode cX6_text 49 = .ok (.aload_n 0, 1) := by decide +kernel
theorem dX6_text_50 : decode cX6_text 50 = .ok (.getfield 10, 3) := by decide +kernel
theorem dX6_text_53 : decode cX6_text 53 = .ok (.getfield 134, 3) := by decide +kernel
theorem dX6_text_56 : decode cX6_text 56 = .ok (.putfield 134, 3) := by decide +kernel
theorem dX6_text_59 : decode cX6_text 59 = .ok (.aload_n 0, 1) := by decide +kernel
theorem dX6_text_60 : decode cX6_text 60 = .ok (.getfield 10, 3) := by decide +kernel
theorem dX6_text_63 : decode cX6_text 63 = .ok (.aload_n 0, 1) := by decide +kernel
theorem dX6_text_64 : decode cX6_text 64 = .ok (.getfield 19, 3) := by decide +kernel
theorem dX6_text_67 : decode cX6_text 67 = .ok (.invokevirtual 137, 3) := by decide +kernel
theorem dX6_text_70 : decode cX6_text 70 = .ok (.iload_n 1, 1) := by decide +kernel
theorem dX6_text_71 : decode cX6_text 71 = .ok (.ireturn, 1) := by decide +kernel
theorem dX6_count_0 : decode cX6_count 0 = .ok (.iload_n 1, 1) := by decide +kernel
theorem dX6_count_1 : decode cX6_count 1 = .ok (.tableswitch 108 0 6 #[43, 51, 59, 69, 77, 92, 100], 43) := by decide +kernel
theorem dX6_count_44 : decode cX6_count 44 = .ok (.aload_n 0, 1) := by decide +kernel
theorem dX6_count_45 : decode cX6_count 45 = .ok (.getfield 10, 3) := by decide +kernel
theorem dX6_count_48 : decode cX6_count 48 = .ok (.getfield 50, 3) := by decide +kernel
theorem dX6_count_51 : decode cX6_count 51 = .ok (.ireturn, 1) := by decide +kernel
theorem dX6_count_52 : decode cX6_count 52 = .ok (.aload_n 0, 1) := by decide +kernel
theorem dX6_count_53 : decode cX6_count 53 = .ok (.getfield 10, 3) := by decide +kernel
theorem dX6_count_56 : decode cX6_count 56 = .ok (.getfield 58, 3) := by decide +kernel
theorem dX6_count_59 : decode cX6_count 59 = .ok (.ireturn, 1) := by decide +kernel
theorem dX6_count_60 : decode cX6_count 60 = .ok (.aload_n 0, 1) := by decide +kernel
theorem dX6_count_61 : decode cX6_count 61 = .ok (.getfield 10, 3) := by decide +kernel
theorem dX6_count_64 : decode cX6_count 64 = .ok (.getfield 141, 3) := by decide +kernel
theorem dX6_count_67 : decode cX6_count 67 = .ok (.iconst 1, 1) := by decide +kernel
theorem dX6_count_68 : decode cX6_count 68 = .ok (.iadd, 1) := by decide +kernel
theorem dX6_count_69 : decode cX6_count 69 = .ok (.ireturn, 1) := by decide +kernel
theorem dX6_count_70 : decode cX6_count 70 = .ok (.aload_n 0, 1) := by decide +kernel
theorem dX6_count_71 : decode cX6_count 71 = .ok (.getfield 10, 3) := by decide +kernel
theorem dX6_count_74 : decode cX6_count 74 = .ok (.getfield 134, 3) := by decide +kernel
theorem dX6_count_77 : decode cX6_count 77 = .ok (.ireturn, 1) := by decide +kernel
theorem dX6_count_78 : decode cX6_count 78 = .ok (.aload_n 0, 1) := by decide +kernel
theorem dX6_count_79 : decode cX6_count 79 = .ok (.getfield 10, 3) := by decide +kernel
theorem dX6_count_82 : decode cX6_count 82 = .ok (.aload_n 0, 1) := by decide +kernel
theorem dX6_count_83 : decode cX6_count 83 = .ok (.getfield 10, 3) := by decide +kernel
theorem dX6_count_86 : decode cX6_count 86 = .ok (.getfield 91, 3) := by decide +kernel
theorem dX6_count_89 : decode cX6_count 89 = .ok (.invokevirtual 94, 3) := by decide +kernel
theorem dX6_count_92 : decode cX6_count 92 = .ok (.ireturn, 1) := by decide +kernel
theorem dX6_count_93 : decode cX6_count 93 = .ok (.aload_n 0, 1) := by decide +kernel
theorem dX6_count_94 : decode cX6_count 94 = .ok (.getfield 10, 3) := by decide +kernel
theorem dX6_count_97 : decode cX6_count 97 = .ok (.getfield 91, 3) := by decide +kernel
theorem dX6_count_100 : decode cX6_count 100 = .ok (.ireturn, 1) := by decide +kernel
theorem dX6_count_101 : decode cX6_count 101 = .ok (.aload_n 0, 1) := by decide +kernel
theorem dX6_count_102 : decode cX6_count 102 = .ok (.getfield 10, 3) := by decide +kernel
theorem dX6_count_105 : decode cX6_count 105 = .ok (.getfield 118, 3) := by decide +kernel
theorem dX6_count_108 : decode cX6_count 108 = .ok (.ireturn, 1) := by decide +kernel
theorem dX6_count_109 : decode cX6_count 109 = .ok (.iconst (-1), 1) := by decide +kernel
theorem dX6_count_110 : decode cX6_count 110 = .ok (.ireturn, 1) := by decide +kernel
theorem dX6_right_0 : decode cX6_right 0 = .ok (.aload_n 0, 1) := by decide +kernel
theorem dX6_right_1 : decode cX6_right 1 = .ok (.getfield 10, 3) := by decide +kernel
theorem dX6_right_4 : decode cX6_right 4 = .ok (.iload_n 1, 1) := by decide +kernel
theorem dX6_right_5 : decode cX6_right 5 = .ok (.invokevirtual 73, 3) := by decide +kernel
theorem dX6_right_8 : decode cX6_right 8 = .ok (.ifCond .ne 5, 3) := by decide +kernel
theorem dX6_right_11 : decode cX6_right 11 = .ok (.iconst (-1), 1) := by decide +kernel
theorem dX6_right_12 : decode cX6_right 12 = .ok (.ireturn, 1) := by decide +kernel
theorem dX6_right_13 : decode cX6_right 13 = .ok (.aload_n 0, 1) := by decide +kernel
theorem dX6_right_14 : decode cX6_right 14 = .ok (.getfield 10, 3) := by decide +kernel
theorem dX6_right_17 : decode cX6_right 17 = .ok (.aload_n 0, 1) := by decide +kernel
theorem dX6_right_18 : decode cX6_right 18 = .ok (.getfield 10, 3) := by decide +kernel
theorem dX6_right_21 : decode cX6_right 21 = .ok (.getfield 91, 3) := by decide +kernel
theorem dX6_right_24 : decode cX6_right 24 = .ok (.invokevirtual 94, 3) := by decide +kernel
theorem dX6_right_27 : decode cX6_right 27 = .ok (.istore_n 2, 1) := by decide +kernel
theorem dX6_right_28 : decode cX6_right 28 = .ok (.aload_n 0, 1) := by decide +kernel
theorem dX6_right_29 : decode cX6_right 29 = .ok (.getfield 10, 3) := by decide +kernel
theorem dX6_right_32 : decode cX6_right 32 = .ok (.getfield 91, 3) := by decide +kernel
theorem dX6_right_35 : decode cX6_right 35 = .ok (.aload_n 0, 1) := by decide +kernel
theorem dX6_right_36 : decode cX6_right 36 = .ok (.getfield 10, 3) := by decide +kernel
theorem dX6_right_39 : decode cX6_right 39 = .ok (.aload_n 0, 1) := by decide +kernel
theorem dX6_right_40 : decode cX6_right 40 = .ok (.getfield 10, 3) := by decide +kernel
theorem dX6_right_43 : decode cX6_right 43 = .ok (.getfield 141, 3) := by decide +kernel
theorem dX6_right_46 : decode cX6_right 46 = .ok (.invokevirtual 144, 3) := by decide +kernel
theorem dX6_right_49 : decode cX6_right 49 = .ok (.iand, 1) := by decide +kernel
theorem dX6_right_50 : decode cX6_right 50 = .ok (.ifCond .eq 7, 3) := by decide +kernel
theorem dX6_right_53 : decode cX6_right 53 = .ok (.iconst 1, 1) := by decide +kernel
theorem dX6_right_54 : decode cX6_right 54 = .ok (.goto 4, 3) := by decide +kernel
theorem dX6_right_57 : decode cX6_right 57 = .ok (.iconst 0, 1) := by decide +kernel
theorem dX6_right_58 : decode cX6_right 58 = .ok (.istore_n 3, 1) := by decide +kernel
theorem dX6_right_59 : decode cX6_right 59 = .ok (.aload_n 0, 1) := by decide +kernel
theorem dX6_right_60 : decode cX6_right 60 = .ok (.getfield 10, 3) := by decide +kernel
theorem dX6_right_63 : decode cX6_right 63 = .ok (.getfield 79, 3) := by decide +kernel
theorem dX6_right_66 : decode cX6_right 66 = .ok (.iload_n 1, 1) := by decide +kernel
theorem dX6_right_67 : decode cX6_right 67 = .ok (.iaload, 1) := by decide +kernel
theorem dX6_right_68 : decode cX6_right 68 = .ok (.aload_n 0, 1) := by decide +kernel
theorem dX6_right_69 : decode cX6_right 69 = .ok (.getfield 10, 3) := by decide +kernel
theorem dX6_right_72 : decode cX6_right 72 = .ok (.getfield 141, 3) := by decide +kernel
theorem dX6_right_75 : decode cX6_right 75 = .ok (.if_icmp .ne 15, 3) := by decide +kernel
theorem dX6_right_78 : decode cX6_right 78 = .ok (.iload_n 2, 1) := by decide +kernel
theorem dX6_right_79 : decode cX6_right 79 = .ok (.iload_n 1, 1) := by decide +kernel
theorem dX6_right_80 : decode cX6_right 80 = .ok (.invokestatic 98, 3) := by decide +kernel
theorem dX6_right_83 : decode cX6_right 83 = .ok (.ifCond .eq 7, 3) := by decide +kernel
theorem dX6_right_86 : decode cX6_right 86 = .ok (.iload_n 3, 1) := by decide +kernel
theorem dX6_right_87 : decode cX6_right 87 = .ok (.ifCond .eq 6, 3) := by decide +kernel
theorem dX6_right_90 : decode cX6_right 90 = .ok (.bipush (-2), 2) := by decide +kernel
theorem dX6_right_92 : decode cX6_right 92 = .ok (.ireturn, 1) := by decide +kernel
theorem dX6_right_93 : decode cX6_right 93 = .ok (.aload_n 0, 1) := by decide +kernel
theorem dX6_right_94 : decode cX6_right 94 = .ok (.getfield 10, 3) := by decide +kernel
theorem dX6_right_97 : decode cX6_right 97 = .ok (.dup, 1) := by decide +kernel
theorem dX6_right_98 : decode cX6_right 98 = .ok (.getfield 91, 3) := by decide +kernel
theorem dX6_right_101 : decode cX6_right 101 = .ok (.iconst 1, 1) := by decide +kernel
theorem dX6_right_102 : decode cX6_right 102 = .ok (.iload_n 1, 1) := by decide +kernel
theorem dX6_right_103 : decode cX6_right 103 = .ok (.ishl, 1) := by decide +kernel
theorem dX6_right_104 : decode cX6_right 104 = .ok (.ior, 1) := by decide +kernel
theorem dX6_right_105 : decode cX6_right 105 = .ok (.putfield 91, 3) := by decide +kernel
theorem dX6_right_108 : decode cX6_right 108 = .ok (.iload_n 2, 1) := by decide +kernel
theorem dX6_right_109 : decode cX6_right 109 = .ok (.aload_n 0, 1) := by decide +kernel
theorem dX6_right_110 : decode cX6_right 110 = .ok (.getfield 10, 3) := by decide +kernel
theorem dX6_right_113 : decode cX6_right 113 = .ok (.aload_n 0, 1) := by decide +kernel
theorem dX6_right_114 : decode cX6_right 114 = .ok (.getfield 10, 3) := by decide +kernel
theorem dX6_right_117 : decode cX6_right 117 = .ok (.getfield 91, 3) := by decide +kernel
theorem dX6_right_120 : decode cX6_right 120 = .ok (.invokevirtual 94, 3) := by decide +kernel
theorem dX6_right_123 : decode cX6_right 123 = .ok (.iconst (-1), 1) := by decide +kernel
theorem dX6_right_124 : decode cX6_right 124 = .ok (.ixor, 1) := by decide +kernel
theorem dX6_right_125 : decode cX6_right 125 = .ok (.iand, 1) := by decide +kernel
theorem dX6_right_126 : decode cX6_right 126 = .ok (.ireturn, 1) := by decide +kernel
theorem dX6_back_0 : decode cX6_back 0 = .ok (.aload_n 0, 1) := by decide +kernel
theorem dX6_back_1 : decode cX6_back 1 = .ok (.getfield 10, 3) := by decide +kernel
theorem dX6_back_4 : decode cX6_back 4 = .ok (.getfield 141, 3) := by decide +kernel
theorem dX6_back_7 : decode cX6_back 7 = .ok (.ifCond .ge 6, 3) := by decide +kernel
theorem dX6_back_10 : decode cX6_back 10 = .ok (.ldc 147, 2) := by decide +kernel
theorem dX6_back_12 : decode cX6_back 12 = .ok (.ireturn, 1) := by decide +kernel
theorem dX6_back_13 : decode cX6_back 13 = .ok (.aload_n 0, 1) := by decide +kernel
theorem dX6_back_14 : decode cX6_back 14 = .ok (.getfield 10, 3) := by decide +kernel
theorem dX6_back_17 : decode cX6_back 17 = .ok (.dup, 1) := by decide +kernel
theorem dX6_back_18 : decode cX6_back 18 = .ok (.getfield 141, 3) := by decide +kernel
theorem dX6_back_21 : decode cX6_back 21 = .ok (.iconst 1, 1) := by decide +kernel
theorem dX6_back_22 : decode cX6_back 22 = .ok (.isub, 1) := by decide +kernel
theorem dX6_back_23 : decode cX6_back 23 = .ok (.putfield 141, 3) := by decide +kernel
theorem dX6_back_26 : decode cX6_back 26 = .ok (.aload_n 0, 1) := by decide +kernel
theorem dX6_back_27 : decode cX6_back 27 = .ok (.getfield 10, 3) := by decide +kernel
theorem dX6_back_30 : decode cX6_back 30 = .ok (.getfield 141, 3) := by decide +kernel
theorem dX6_back_33 : decode cX6_back 33 = .ok (.ireturn, 1) := by decide +kernel
theorem dX6_year_0 : decode cX6_year 0 = .ok (.aload_n 0, 1) := by decide +kernel
theorem dX6_year_1 : decode cX6_year 1 = .ok (.getfield 10, 3) := by decide +kernel
theorem dX6_year_4 : decode cX6_year 4 = .ok (.getfield 134, 3) := by decide +kernel
theorem dX6_year_7 : decode cX6_year 7 = .ok (.sipush 9999, 3) := by decide +kernel
theorem dX6_year_10 : decode cX6_year 10 = .ok (.if_icmp .lt 6, 3) := by decide +kernel
theorem dX6_year_13 : decode cX6_year 13 = .ok (.bipush (-3), 2) := by decide +kernel
theorem dX6_year_15 : decode cX6_year 15 = .ok (.ireturn, 1) := by decide +kernel
theorem dX6_year_16 : decode cX6_year 16 = .ok (.aload_n 0, 1) := by decide +kernel
theorem dX6_year_17 : decode cX6_year 17 = .ok (.getfield 10, 3) := by decide +kernel
theorem dX6_year_20 : decode cX6_year 20 = .ok (.invokevirtual 148, 3) := by decide +kernel
theorem dX6_year_23 : decode cX6_year 23 = .ok (.aload_n 0, 1) := by decide +kernel
theorem dX6_year_24 : decode cX6_year 24 = .ok (.getfield 10, 3) := by decide +kernel
theorem dX6_year_27 : decode cX6_year 27 = .ok (.aload_n 0, 1) := by decide +kernel
theorem dX6_year_28 : decode cX6_year 28 = .ok (.getfield 10, 3) := by decide +kernel
theorem dX6_year_31 : decode cX6_year 31 = .ok (.getfield 91, 3) := by decide +kernel
theorem dX6_year_34 : decode cX6_year 34 = .ok (.invokevirtual 94, 3) := by decide +kernel
theorem dX6_year_37 : decode cX6_year 37 = .ok (.invokestatic 151, 3) := by decide +kernel
theorem dX6_year_40 : decode cX6_year 40 = .ok (.ireturn, 1) := by decide +kernel
theorem dX6_value_0 : decode cX6_value 0 = .ok (.iload_n 1, 1) := by decide +kernel
theorem dX6_value_1 : decode cX6_value 1 = .ok (.iconst (-1), 1) := by decide +kernel
theorem dX6_value_2 : decode cX6_value 2 = .ok (.if_icmp .ne 18, 3) := by decide +kernel
theorem dX6_value_5 : decode cX6_value 5 = .ok (.aload_n 0, 1) := by decide +kernel
theorem dX6_value_6 : decode cX6_value 6 = .ok (.getfield 10, 3) := by decide +kernel
theorem dX6_value_9 : decode cX6_value 9 = .ok (.aload_n 0, 1) := by decide +kernel
theorem dX6_value_10 : decode cX6_value 10 = .ok (.getfield 10, 3) := by decide +kernel
theorem dX6_value_13 : decode cX6_value 13 = .ok (.getfield 91, 3) := by decide +kernel
theorem dX6_value_16 : decode cX6_value 16 = .ok (.invokevirtual 156, 3) := by decide +kernel
theorem dX6_value_19 : decode cX6_value 19 = .ok (.ireturn, 1) := by decide +kernel
theorem dX6_value_20 : decode cX6_value 20 = .ok (.aload_n 0, 1) := by decide +kernel
theorem dX6_value_21 : decode cX6_value 21 = .ok (.getfield 10, 3) := by decide +kernel
theorem dX6_value_24 : decode cX6_value 24 = .ok (.iload_n 1, 1) := by decide +kernel
theorem dX6_value_25 : decode cX6_value 25 = .ok (.invokevirtual 159, 3) := by decide +kernel
theorem dX6_value_28 : decode cX6_value 28 = .ok (.ifCond .ne 6, 3) := by decide +kernel
theorem dX6_value_31 : decode cX6_value 31 = .ok (.ldc 107, 2) := by decide +kernel
theorem dX6_value_33 : decode cX6_value 33 = .ok (.ireturn, 1) := by decide +kernel
theorem dX6_value_34 : decode cX6_value 34 = .ok (.aload_n 0, 1) := by decide +kernel
theorem dX6_value_35 : decode cX6_value 35 = .ok (.getfield 10, 3) := by decide +kernel
theorem dX6_value_38 : decode cX6_value 38 = .ok (.iload_n 1, 1) := by decide +kernel
theorem dX6_value_39 : decode cX6_value 39 = .ok (.aload_n 0, 1) := by decide +kernel
theorem dX6_value_40 : decode cX6_value 40 = .ok (.getfield 10, 3) := by decide +kernel
theorem dX6_value_43 : decode cX6_value 43 = .ok (.getfield 91, 3) := by decide +kernel
theorem dX6_value_46 : decode cX6_value 46 = .ok (.invokevirtual 162, 3) := by decide +kernel
theorem dX6_value_49 : decode cX6_value 49 = .ok (.ireturn, 1) := by decide +kernel
theorem dX6_bears_0 : decode cX6_bears 0 = .ok (.aload_n 0, 1) := by decide +kernel
theorem dX6_bears_1 : decode cX6_bears 1 = .ok (.getfield 10, 3) := by decide +kernel
theorem dX6_bears_4 : decode cX6_bears 4 = .ok (.iload_n 1, 1) := by decide +kernel
theorem dX6_bears_5 : decode cX6_bears 5 = .ok (.invokevirtual 73, 3) := by decide +kernel
theorem dX6_bears_8 : decode cX6_bears 8 = .ok (.ifCond .eq 14, 3) := by decide +kernel
theorem dX6_bears_11 : decode cX6_bears 11 = .ok (.aload_n 0, 1) := by decide +kernel
theorem dX6_bears_12 : decode cX6_bears 12 = .ok (.getfield 10, 3) := by decide +kernel
theorem dX6_bears_15 : decode cX6_bears 15 = .ok (.iload_n 1, 1) := by decide +kernel
theorem dX6_bears_16 : decode cX6_bears 16 = .ok (.invokevirtual 165, 3) := by decide +kernel
theorem dX6_bears_19 : decode cX6_bears 19 = .ok (.goto 4, 3) := by decide +kernel
theorem dX6_bears_22 : decode cX6_bears 22 = .ok (.iconst (-1), 1) := by decide +kernel
theorem dX6_bears_23 : decode cX6_bears 23 = .ok (.ireturn, 1) := by decide +kernel
theorem dX6_best_0 : decode cX6_best 0 = .ok (.iload_n 1, 1) := by decide +kernel
theorem dX6_best_1 : decode cX6_best 1 = .ok (.invokestatic 168, 3) := by decide +kernel
theorem dX6_best_4 : decode cX6_best 4 = .ok (.ifCond .eq 17, 3) := by decide +kernel
theorem dX6_best_7 : decode cX6_best 7 = .ok (.iload_n 2, 1) := by decide +kernel
theorem dX6_best_8 : decode cX6_best 8 = .ok (.invokestatic 101, 3) := by decide +kernel
theorem dX6_best_11 : decode cX6_best 11 = .ok (.ifCond .eq 10, 3) := by decide +kernel
theorem dX6_best_14 : decode cX6_best 14 = .ok (.iload_n 3, 1) := by decide +kernel
theorem dX6_best_15 : decode cX6_best 15 = .ok (.invokestatic 101, 3) := by decide +kernel
theorem dX6_best_18 : decode cX6_best 18 = .ok (.ifCond .ne 6, 3) := by decide +kernel
theorem dX6_best_21 : decode cX6_best 21 = .ok (.ldc 107, 2) := by decide +kernel
theorem dX6_best_23 : decode cX6_best 23 = .ok (.ireturn, 1) := by decide +kernel
theorem dX6_best_24 : decode cX6_best 24 = .ok (.aload_n 0, 1) := by decide +kernel
theorem dX6_best_25 : decode cX6_best 25 = .ok (.getfield 10, 3) := by decide +kernel
theorem dX6_best_28 : decode cX6_best 28 = .ok (.iload_n 1, 1) := by decide +kernel
theorem dX6_best_29 : decode cX6_best 29 = .ok (.iload_n 2, 1) := by decide +kernel
theorem dX6_best_30 : decode cX6_best 30 = .ok (.iconst 1, 1) := by decide +kernel
theorem dX6_best_31 : decode cX6_best 31 = .ok (.if_icmp .ne 7, 3) := by decide +kernel
theorem dX6_best_34 : decode cX6_best 34 = .ok (.iconst 1, 1) := by decide +kernel
theorem dX6_best_35 : decode cX6_best 35 = .ok (.goto 4, 3) := by decide +kernel
theorem dX6_best_38 : decode cX6_best 38 = .ok (.iconst 0, 1) := by decide +kernel
theorem dX6_best_39 : decode cX6_best 39 = .ok (.invokestatic 171, 3) := by decide +kernel
theorem dX6_best_42 : decode cX6_best 42 = .ok (.istore 4, 2) := by decide +kernel
theorem dX6_best_44 : decode cX6_best 44 = .ok (.iload_n 3, 1) := by decide +kernel
theorem dX6_best_45 : decode cX6_best 45 = .ok (.ifCond .ne 15, 3) := by decide +kernel
theorem dX6_best_48 : decode cX6_best 48 = .ok (.aload_n 0, 1) := by decide +kernel
theorem dX6_best_49 : decode cX6_best 49 = .ok (.getfield 10, 3) := by decide +kernel
theorem dX6_best_52 : decode cX6_best 52 = .ok (.iload 4, 2) := by decide +kernel
theorem dX6_best_54 : decode cX6_best 54 = .ok (.invokevirtual 156, 3) := by decide +kernel
theorem dX6_best_57 : decode cX6_best 57 = .ok (.goto 5, 3) := by decide +kernel
theorem dX6_best_60 : decode cX6_best 60 = .ok (.iload 4, 2) := by decide +kernel
theorem dX6_best_62 : decode cX6_best 62 = .ok (.ireturn, 1) := by decide +kernel
theorem dX6_wanted_0 : decode cX6_wanted 0 = .ok (.iload_n 1, 1) := by decide +kernel
theorem dX6_wanted_1 : decode cX6_wanted 1 = .ok (.aload_n 0, 1) := by decide +kernel
theorem dX6_wanted_2 : decode cX6_wanted 2 = .ok (.getfield 10, 3) := by decide +kernel
theorem dX6_wanted_5 : decode cX6_wanted 5 = .ok (.invokevirtual 114, 3) := by decide +kernel
theorem dX6_wanted_8 : decode cX6_wanted 8 = .ok (.invokestatic 65, 3) := by decide +kernel
theorem dX6_wanted_11 : decode cX6_wanted 11 = .ok (.ifCond .eq 23, 3) := by decide +kernel
theorem dX6_wanted_14 : decode cX6_wanted 14 = .ok (.iload_n 2, 1) := by decide +kernel
theorem dX6_wanted_15 : decode cX6_wanted 15 = .ok (.aload_n 0, 1) := by decide +kernel
theorem dX6_wanted_16 : decode cX6_wanted 16 = .ok (.getfield 10, 3) := by decide +kernel
theorem dX6_wanted_19 : decode cX6_wanted 19 = .ok (.invokevirtual 114, 3) := by decide +kernel
theorem dX6_wanted_22 : decode cX6_wanted 22 = .ok (.invokestatic 65, 3) := by decide +kernel
theorem dX6_wanted_25 : decode cX6_wanted 25 = .ok (.ifCond .eq 9, 3) := by decide +kernel
theorem dX6_wanted_28 : decode cX6_wanted 28 = .ok (.iload_n 1, 1) := by decide +kernel
theorem dX6_wanted_29 : decode cX6_wanted 29 = .ok (.iload_n 2, 1) := by decide +kernel
theorem dX6_wanted_30 : decode cX6_wanted 30 = .ok (.iand, 1) := by decide +kernel
theorem dX6_wanted_31 : decode cX6_wanted 31 = .ok (.ifCond .eq 5, 3) := by decide +kernel
theorem dX6_wanted_34 : decode cX6_wanted 34 = .ok (.iconst (-1), 1) := by decide +kernel
theorem dX6_wanted_35 : decode cX6_wanted 35 = .ok (.ireturn, 1) := by decide +kernel
theorem dX6_wanted_36 : decode cX6_wanted 36 = .ok (.aload_n 0, 1) := by decide +kernel
theorem dX6_wanted_37 : decode cX6_wanted 37 = .ok (.getfield 10, 3) := by decide +kernel
theorem dX6_wanted_40 : decode cX6_wanted 40 = .ok (.iload_n 1, 1) := by decide +kernel
theorem dX6_wanted_41 : decode cX6_wanted 41 = .ok (.iload_n 2, 1) := by decide +kernel
theorem dX6_wanted_42 : decode cX6_wanted 42 = .ok (.invokestatic 177, 3) := by decide +kernel
theorem dX6_wanted_45 : decode cX6_wanted 45 = .ok (.ireturn, 1) := by decide +kernel
theorem dX6_self_0 : decode cX6_self 0 = .ok (.aload_n 0, 1) := by decide +kernel
theorem dX6_self_1 : decode cX6_self 1 = .ok (.getfield 10, 3) := by decide +kernel
theorem dX6_self_4 : decode cX6_self 4 = .ok (.iconst (-1), 1) := by decide +kernel
theorem dX6_self_5 : decode cX6_self 5 = .ok (.invokestatic 181, 3) := by decide +kernel
theorem dX6_self_8 : decode cX6_self 8 = .ok (.ireturn, 1) := by decide +kernel
theorem dX6_turn_0 : decode cX6_turn 0 = .ok (.aload_n 0, 1) := by decide +kernel
theorem dX6_turn_1 : decode cX6_turn 1 = .ok (.getfield 10, 3) := by decide +kernel
theorem dX6_turn_4 : decode cX6_turn 4 = .ok (.iload_n 1, 1) := by decide +kernel
theorem dX6_turn_5 : decode cX6_turn 5 = .ok (.invokevirtual 159, 3) := by decide +kernel
theorem dX6_turn_8 : decode cX6_turn 8 = .ok (.ifCond .ne 6, 3) := by decide +kernel
theorem dX6_turn_11 : decode cX6_turn 11 = .ok (.ldc 107, 2) := by decide +kernel
theorem dX6_turn_13 : decode cX6_turn 13 = .ok (.ireturn, 1) := by decide +kernel
theorem dX6_turn_14 : decode cX6_turn 14 = .ok (.aload_n 0, 1) := by decide +kernel
theorem dX6_turn_15 : decode cX6_turn 15 = .ok (.getfield 10, 3) := by decide +kernel
theorem dX6_turn_18 : decode cX6_turn 18 = .ok (.iload_n 1, 1) := by decide +kernel
theorem dX6_turn_19 : decode cX6_turn 19 = .ok (.aload_n 0, 1) := by decide +kernel
theorem dX6_turn_20 : decode cX6_turn 20 = .ok (.getfield 10, 3) := by decide +kernel
theorem dX6_turn_23 : decode cX6_turn 23 = .ok (.iconst (-1), 1) := by decide +kernel
theorem dX6_turn_24 : decode cX6_turn 24 = .ok (.invokestatic 181, 3) := by decide +kernel
theorem dX6_turn_27 : decode cX6_turn 27 = .ok (.invokevirtual 162, 3) := by decide +kernel
theorem dX6_turn_30 : decode cX6_turn 30 = .ok (.istore_n 2, 1) := by decide +kernel
theorem dX6_turn_31 : decode cX6_turn 31 = .ok (.iload_n 2, 1) := by decide +kernel
theorem dX6_turn_32 : decode cX6_turn 32 = .ok (.aload_n 0, 1) := by decide +kernel
theorem dX6_turn_33 : decode cX6_turn 33 = .ok (.getfield 10, 3) := by decide +kernel
theorem dX6_turn_36 : decode cX6_turn 36 = .ok (.iload_n 1, 1) := by decide +kernel
theorem dX6_turn_37 : decode cX6_turn 37 = .ok (.aload_n 0, 1) := by decide +kernel
theorem dX6_turn_38 : decode cX6_turn 38 = .ok (.getfield 10, 3) := by decide +kernel
theorem dX6_turn_41 : decode cX6_turn 41 = .ok (.iload_n 1, 1) := by decide +kernel
theorem dX6_turn_42 : decode cX6_turn 42 = .ok (.invokestatic 181, 3) := by decide +kernel
theorem dX6_turn_45 : decode cX6_turn 45 = .ok (.invokevirtual 162, 3) := by decide +kernel
theorem dX6_turn_48 : decode cX6_turn 48 = .ok (.isub, 1) := by decide +kernel
theorem dX6_turn_49 : decode cX6_turn 49 = .ok (.ireturn, 1) := by decide +kernel
theorem dX6_bargain_0 : decode cX6_bargain 0 = .ok (.aload_n 0, 1) := by decide +kernel
theorem dX6_bargain_1 : decode cX6_bargain 1 = .ok (.getfield 10, 3) := by decide +kernel
theorem dX6_bargain_4 : decode cX6_bargain 4 = .ok (.iload_n 1, 1) := by decide +kernel
theorem dX6_bargain_5 : decode cX6_bargain 5 = .ok (.invokevirtual 73, 3) := by decide +kernel
theorem dX6_bargain_8 : decode cX6_bargain 8 = .ok (.ifCond .eq 38, 3) := by decide +kernel
theorem dX6_bargain_11 : decode cX6_bargain 11 = .ok (.aload_n 0, 1) := by decide +kernel
theorem dX6_bargain_12 : decode cX6_bargain 12 = .ok (.getfield 10, 3) := by decide +kernel
theorem dX6_bargain_15 : decode cX6_bargain 15 = .ok (.iload_n 2, 1) := by decide +kernel
theorem dX6_bargain_16 : decode cX6_bargain 16 = .ok (.invokevirtual 159, 3) := by decide +kernel
theorem dX6_bargain_19 : decode cX6_bargain 19 = .ok (.ifCond .eq 27, 3) := by decide +kernel
theorem dX6_bargain_22 : decode cX6_bargain 22 = .ok (.aload_n 0, 1) := by decide +kernel
theorem dX6_bargain_23 : decode cX6_bargain 23 = .ok (.getfield 10, 3) := by decide +kernel
theorem dX6_bargain_26 : decode cX6_bargain 26 = .ok (.iload_n 3, 1) := by decide +kernel
theorem dX6_bargain_27 : decode cX6_bargain 27 = .ok (.invokevirtual 159, 3) := by decide +kernel
theorem dX6_bargain_30 : decode cX6_bargain 30 = .ok (.ifCond .eq 16, 3) := by decide +kernel
theorem dX6_bargain_33 : decode cX6_bargain 33 = .ok (.iload_n 2, 1) := by decide +kernel
theorem dX6_bargain_34 : decode cX6_bargain 34 = .ok (.iload_n 3, 1) := by decide +kernel
theorem dX6_bargain_35 : decode cX6_bargain 35 = .ok (.if_icmp .eq 11, 3) := by decide +kernel
theorem dX6_bargain_38 : decode cX6_bargain 38 = .ok (.iload 4, 2) := by decide +kernel
theorem dX6_bargain_40 : decode cX6_bargain 40 = .ok (.invokestatic 101, 3) := by decide +kernel
theorem dX6_bargain_43 : decode cX6_bargain 43 = .ok (.ifCond .ne 5, 3) := by decide +kernel
theorem dX6_bargain_46 : decode cX6_bargain 46 = .ok (.iconst (-1), 1) := by decide +kernel
theorem dX6_bargain_47 : decode cX6_bargain 47 = .ok (.ireturn, 1) := by decide +kernel
theorem dX6_bargain_48 : decode cX6_bargain 48 = .ok (.aload_n 0, 1) := by decide +kernel
theorem dX6_bargain_49 : decode cX6_bargain 49 = .ok (.getfield 10, 3) := by decide +kernel
theorem dX6_bargain_52 : decode cX6_bargain 52 = .ok (.aload_n 0, 1) := by decide +kernel
theorem dX6_bargain_53 : decode cX6_bargain 53 = .ok (.getfield 10, 3) := by decide +kernel
theorem dX6_bargain_56 : decode cX6_bargain 56 = .ok (.getfield 91, 3) := by decide +kernel
theorem dX6_bargain_59 : decode cX6_bargain 59 = .ok (.invokevirtual 94, 3) := by decide +kernel
theorem dX6_bargain_62 : decode cX6_bargain 62 = .ok (.iload_n 1, 1) := by decide +kernel
theorem dX6_bargain_63 : decode cX6_bargain 63 = .ok (.invokestatic 98, 3) := by decide +kernel
theorem dX6_bargain_66 : decode cX6_bargain 66 = .ok (.ifCond .ne 6, 3) := by decide +kernel
theorem dX6_bargain_69 : decode cX6_bargain 69 = .ok (.bipush (-2), 2) := by decide +kernel
theorem dX6_bargain_71 : decode cX6_bargain 71 = .ok (.ireturn, 1) := by decide +kernel
theorem dX6_bargain_72 : decode cX6_bargain 72 = .ok (.aload_n 0, 1) := by decide +kernel
theorem dX6_bargain_73 : decode cX6_bargain 73 = .ok (.getfield 10, 3) := by decide +kernel
theorem dX6_bargain_76 : decode cX6_bargain 76 = .ok (.getfield 91, 3) := by decide +kernel
theorem dX6_bargain_79 : decode cX6_bargain 79 = .ok (.iconst 1, 1) := by decide +kernel
theorem dX6_bargain_80 : decode cX6_bargain 80 = .ok (.iload_n 1, 1) := by decide +kernel
theorem dX6_bargain_81 : decode cX6_bargain 81 = .ok (.ishl, 1) := by decide +kernel
theorem dX6_bargain_82 : decode cX6_bargain 82 = .ok (.ior, 1) := by decide +kernel
theorem dX6_bargain_83 : decode cX6_bargain 83 = .ok (.istore 5, 2) := by decide +kernel
theorem dX6_bargain_85 : decode cX6_bargain 85 = .ok (.aload_n 0, 1) := by decide +kernel
theorem dX6_bargain_86 : decode cX6_bargain 86 = .ok (.getfield 10, 3) := by decide +kernel
theorem dX6_bargain_89 : decode cX6_bargain 89 = .ok (.iload_n 2, 1) := by decide +kernel
theorem dX6_bargain_90 : decode cX6_bargain 90 = .ok (.iload 5, 2) := by decide +kernel
theorem dX6_bargain_92 : decode cX6_bargain 92 = .ok (.invokevirtual 162, 3) := by decide +kernel
theorem dX6_bargain_95 : decode cX6_bargain 95 = .ok (.aload_n 0, 1) := by decide +kernel
theorem dX6_bargain_96 : decode cX6_bargain 96 = .ok (.getfield 10, 3) := by decide +kernel
theorem dX6_bargain_99 : decode cX6_bargain 99 = .ok (.iload_n 2, 1) := by decide +kernel
theorem dX6_bargain_100 : decode cX6_bargain 100 = .ok (.aload_n 0, 1) := by decide +kernel
theorem dX6_bargain_101 : decode cX6_bargain 101 = .ok (.getfield 10, 3) := by decide +kernel
theorem dX6_bargain_104 : decode cX6_bargain 104 = .ok (.getfield 91, 3) := by decide +kernel
theorem dX6_bargain_107 : decode cX6_bargain 107 = .ok (.invokevirtual 162, 3) := by decide +kernel
theorem dX6_bargain_110 : decode cX6_bargain 110 = .ok (.isub, 1) := by decide +kernel
theorem dX6_bargain_111 : decode cX6_bargain 111 = .ok (.istore 6, 2) := by decide +kernel
theorem dX6_bargain_113 : decode cX6_bargain 113 = .ok (.aload_n 0, 1) := by decide +kernel
theorem dX6_bargain_114 : decode cX6_bargain 114 = .ok (.getfield 10, 3) := by decide +kernel
theorem dX6_bargain_117 : decode cX6_bargain 117 = .ok (.iload_n 3, 1) := by decide +kernel
theorem dX6_bargain_118 : decode cX6_bargain 118 = .ok (.aload_n 0, 1) := by decide +kernel
theorem dX6_bargain_119 : decode cX6_bargain 119 = .ok (.getfield 10, 3) := by decide +kernel
theorem dX6_bargain_122 : decode cX6_bargain 122 = .ok (.getfield 91, 3) := by decide +kernel
theorem dX6_bargain_125 : decode cX6_bargain 125 = .ok (.invokevirtual 162, 3) := by decide +kernel
theorem dX6_bargain_128 : decode cX6_bargain 128 = .ok (.aload_n 0, 1) := by decide +kernel
theorem dX6_bargain_129 : decode cX6_bargain 129 = .ok (.getfield 10, 3) := by decide +kernel
theorem dX6_bargain_132 : decode cX6_bargain 132 = .ok (.iload_n 3, 1) := by decide +kernel
theorem dX6_bargain_133 : decode cX6_bargain 133 = .ok (.iload 5, 2) := by decide +kernel
theorem dX6_bargain_135 : decode cX6_bargain 135 = .ok (.invokevirtual 162, 3) := by decide +kernel
theorem dX6_bargain_138 : decode cX6_bargain 138 = .ok (.isub, 1) := by decide +kernel
theorem dX6_bargain_139 : decode cX6_bargain 139 = .ok (.istore 7, 2) := by decide +kernel
theorem dX6_bargain_141 : decode cX6_bargain 141 = .ok (.iload 6, 2) := by decide +kernel
theorem dX6_bargain_143 : decode cX6_bargain 143 = .ok (.iload 7, 2) := by decide +kernel
theorem dX6_bargain_145 : decode cX6_bargain 145 = .ok (.if_icmp .lt 8, 3) := by decide +kernel
theorem dX6_bargain_148 : decode cX6_bargain 148 = .ok (.iload 6, 2) := by decide +kernel
theorem dX6_bargain_150 : decode cX6_bargain 150 = .ok (.ifCond .gt 6, 3) := by decide +kernel
theorem dX6_bargain_153 : decode cX6_bargain 153 = .ok (.bipush (-4), 2) := by decide +kernel
theorem dX6_bargain_155 : decode cX6_bargain 155 = .ok (.ireturn, 1) := by decide +kernel
theorem dX6_bargain_156 : decode cX6_bargain 156 = .ok (.iload 4, 2) := by decide +kernel
theorem dX6_bargain_158 : decode cX6_bargain 158 = .ok (.ifCond .ne 12, 3) := by decide +kernel
theorem dX6_bargain_161 : decode cX6_bargain 161 = .ok (.iload 7, 2) := by decide +kernel
theorem dX6_bargain_163 : decode cX6_bargain 163 = .ok (.iconst 0, 1) := by decide +kernel
theorem dX6_bargain_164 : decode cX6_bargain 164 = .ok (.invokestatic 185, 3) := by decide +kernel
theorem dX6_bargain_167 : decode cX6_bargain 167 = .ok (.goto 5, 3) := by decide +kernel
theorem dX6_bargain_170 : decode cX6_bargain 170 = .ok (.iload 6, 2) := by decide +kernel
theorem dX6_bargain_172 : decode cX6_bargain 172 = .ok (.ireturn, 1) := by decide +kernel
theorem dX6_due_0 : decode cX6_due 0 = .ok (.aload_n 0, 1) := by decide +kernel
theorem dX6_due_1 : decode cX6_due 1 = .ok (.getfield 10, 3) := by decide +kernel
theorem dX6_due_4 : decode cX6_due 4 = .ok (.iload_n 1, 1) := by decide +kernel
theorem dX6_due_5 : decode cX6_due 5 = .ok (.invokevirtual 159, 3) := by decide +kernel
theorem dX6_due_8 : decode cX6_due 8 = .ok (.ifCond .eq 14, 3) := by decide +kernel
theorem dX6_due_11 : decode cX6_due 11 = .ok (.aload_n 0, 1) := by decide +kernel
theorem dX6_due_12 : decode cX6_due 12 = .ok (.getfield 10, 3) := by decide +kernel
theorem dX6_due_15 : decode cX6_due 15 = .ok (.iload_n 1, 1) := by decide +kernel
theorem dX6_due_16 : decode cX6_due 16 = .ok (.invokestatic 190, 3) := by decide +kernel
theorem dX6_due_19 : decode cX6_due 19 = .ok (.goto 5, 3) := by decide +kernel
theorem dX6_due_22 : decode cX6_due 22 = .ok (.ldc 107, 2) := by decide +kernel
theorem dX6_due_24 : decode cX6_due 24 = .ok (.ireturn, 1) := by decide +kernel
theorem dX6_payments_0 : decode cX6_payments 0 = .ok (.iconst 0, 1) := by decide +kernel
theorem dX6_payments_1 : decode cX6_payments 1 = .ok (.istore_n 1, 1) := by decide +kernel
theorem dX6_payments_2 : decode cX6_payments 2 = .ok (.iload_n 1, 1) := by decide +kernel
theorem dX6_payments_3 : decode cX6_payments 3 = .ok (.iconst 4, 1) := by decide +kernel
theorem dX6_payments_4 : decode cX6_payments 4 = .ok (.if_icmp .ge 38, 3) := by decide +kernel
theorem dX6_payments_7 : decode cX6_payments 7 = .ok (.aload_n 0, 1) := by decide +kernel
theorem dX6_payments_8 : decode cX6_payments 8 = .ok (.getfield 43, 3) := by decide +kernel
theorem dX6_payments_11 : decode cX6_payments 11 = .ok (.iload_n 1, 1) := by decide +kernel
theorem dX6_payments_12 : decode cX6_payments 12 = .ok (.aload_n 0, 1) := by decide +kernel
theorem dX6_payments_13 : decode cX6_payments 13 = .ok (.getfield 10, 3) := by decide +kernel
theorem dX6_payments_16 : decode cX6_payments 16 = .ok (.iload_n 1, 1) := by decide +kernel
theorem dX6_payments_17 : decode cX6_payments 17 = .ok (.invokevirtual 159, 3) := by decide +kernel
theorem dX6_payments_20 : decode cX6_payments 20 = .ok (.ifCond .eq 14, 3) := by decide +kernel
theorem dX6_payments_23 : decode cX6_payments 23 = .ok (.aload_n 0, 1) := by decide +kernel
theorem dX6_payments_24 : decode cX6_payments 24 = .ok (.getfield 10, 3) := by decide +kernel
theorem dX6_payments_27 : decode cX6_payments 27 = .ok (.iload_n 1, 1) := by decide +kernel
theorem dX6_payments_28 : decode cX6_payments 28 = .ok (.invokestatic 190, 3) := by decide +kernel
theorem dX6_payments_31 : decode cX6_payments 31 = .ok (.goto 4, 3) := by decide +kernel
theorem dX6_payments_34 : decode cX6_payments 34 = .ok (.iconst 0, 1) := by decide +kernel
theorem dX6_payments_35 : decode cX6_payments 35 = .ok (.iastore, 1) := by decide +kernel
theorem dX6_payments_36 : decode cX6_payments 36 = .ok (.iinc 1 1, 3) := by decide +kernel
theorem dX6_payments_39 : decode cX6_payments 39 = .ok (.goto (-37), 3) := by decide +kernel
theorem dX6_payments_42 : decode cX6_payments 42 = .ok (.aload_n 0, 1) := by decide +kernel
theorem dX6_payments_43 : decode cX6_payments 43 = .ok (.getfield 43, 3) := by decide +kernel
theorem dX6_payments_46 : decode cX6_payments 46 = .ok (.invokestatic 195, 3) := by decide +kernel
theorem dX6_payments_49 : decode cX6_payments 49 = .ok (.ireturn, 1) := by decide +kernel
theorem dX6_forgotten_0 : decode cX6_forgotten 0 = .ok (.iload_n 1, 1) := by decide +kernel
theorem dX6_forgotten_1 : decode cX6_forgotten 1 = .ok (.invokestatic 54, 3) := by decide +kernel
theorem dX6_forgotten_4 : decode cX6_forgotten 4 = .ok (.ifCond .eq 10, 3) := by decide +kernel
theorem dX6_forgotten_7 : decode cX6_forgotten 7 = .ok (.iload_n 3, 1) := by decide +kernel
theorem dX6_forgotten_8 : decode cX6_forgotten 8 = .ok (.invokestatic 101, 3) := by decide +kernel
theorem dX6_forgotten_11 : decode cX6_forgotten 11 = .ok (.ifCond .ne 5, 3) := by decide +kernel
theorem dX6_forgotten_14 : decode cX6_forgotten 14 = .ok (.iconst (-1), 1) := by decide +kernel
theorem dX6_forgotten_15 : decode cX6_forgotten 15 = .ok (.ireturn, 1) := by decide +kernel
theorem dX6_forgotten_16 : decode cX6_forgotten 16 = .ok (.aload_n 0, 1) := by decide +kernel
theorem dX6_forgotten_17 : decode cX6_forgotten 17 = .ok (.getfield 10, 3) := by decide +kernel
theorem dX6_forgotten_20 : decode cX6_forgotten 20 = .ok (.iload_n 1, 1) := by decide +kernel
theorem dX6_forgotten_21 : decode cX6_forgotten 21 = .ok (.invokevirtual 144, 3) := by decide +kernel
theorem dX6_forgotten_24 : decode cX6_forgotten 24 = .ok (.istore 4, 2) := by decide +kernel
theorem dX6_forgotten_26 : decode cX6_forgotten 26 = .ok (.aload_n 0, 1) := by decide +kernel
theorem dX6_forgotten_27 : decode cX6_forgotten 27 = .ok (.getfield 10, 3) := by decide +kernel
theorem dX6_forgotten_30 : decode cX6_forgotten 30 = .ok (.invokevirtual 114, 3) := by decide +kernel
theorem dX6_forgotten_33 : decode cX6_forgotten 33 = .ok (.iload 4, 2) := by decide +kernel
theorem dX6_forgotten_35 : decode cX6_forgotten 35 = .ok (.iconst (-1), 1) := by decide +kernel
theorem dX6_forgotten_36 : decode cX6_forgotten 36 = .ok (.ixor, 1) := by decide +kernel
theorem dX6_forgotten_37 : decode cX6_forgotten 37 = .ok (.iand, 1) := by decide +kernel
theorem dX6_forgotten_38 : decode cX6_forgotten 38 = .ok (.istore 5, 2) := by decide +kernel
theorem dX6_forgotten_40 : decode cX6_forgotten 40 = .ok (.iload_n 2, 1) := by decide +kernel
theorem dX6_forgotten_41 : decode cX6_forgotten 41 = .ok (.iload 5, 2) := by decide +kernel
theorem dX6_forgotten_43 : decode cX6_forgotten 43 = .ok (.invokestatic 65, 3) := by decide +kernel
theorem dX6_forgotten_46 : decode cX6_forgotten 46 = .ok (.ifCond .ne 5, 3) := by decide +kernel
theorem dX6_forgotten_49 : decode cX6_forgotten 49 = .ok (.iconst (-1), 1) := by decide +kernel
theorem dX6_forgotten_50 : decode cX6_forgotten 50 = .ok (.ireturn, 1) := by decide +kernel
theorem dX6_forgotten_51 : decode cX6_forgotten 51 = .ok (.iconst 0, 1) := by decide +kernel
theorem dX6_forgotten_52 : decode cX6_forgotten 52 = .ok (.istore 6, 2) := by decide +kernel
theorem dX6_forgotten_54 : decode cX6_forgotten 54 = .ok (.iload 4, 2) := by decide +kernel
theorem dX6_forgotten_56 : decode cX6_forgotten 56 = .ok (.istore 7, 2) := by decide +kernel
theorem dX6_forgotten_58 : decode cX6_forgotten 58 = .ok (.iconst 0, 1) := by decide +kernel
theorem dX6_forgotten_59 : decode cX6_forgotten 59 = .ok (.istore 8, 2) := by decide +kernel
theorem dX6_forgotten_61 : decode cX6_forgotten 61 = .ok (.iload 8, 2) := by decide +kernel
theorem dX6_forgotten_63 : decode cX6_forgotten 63 = .ok (.iload 4, 2) := by decide +kernel
theorem dX6_forgotten_65 : decode cX6_forgotten 65 = .ok (.if_icmp .gt 45, 3) := by decide +kernel
theorem dX6_forgotten_68 : decode cX6_forgotten 68 = .ok (.iload 8, 2) := by decide +kernel
theorem dX6_forgotten_70 : decode cX6_forgotten 70 = .ok (.iload 4, 2) := by decide +kernel
theorem dX6_forgotten_72 : decode cX6_forgotten 72 = .ok (.invokestatic 65, 3) := by decide +kernel
theorem dX6_forgotten_75 : decode cX6_forgotten 75 = .ok (.ifCond .eq 29, 3) := by decide +kernel
theorem dX6_forgotten_78 : decode cX6_forgotten 78 = .ok (.aload_n 0, 1) := by decide +kernel
theorem dX6_forgotten_79 : decode cX6_forgotten 79 = .ok (.getfield 10, 3) := by decide +kernel
theorem dX6_forgotten_82 : decode cX6_forgotten 82 = .ok (.iload_n 2, 1) := by decide +kernel
theorem dX6_forgotten_83 : decode cX6_forgotten 83 = .ok (.iload 8, 2) := by decide +kernel
theorem dX6_forgotten_85 : decode cX6_forgotten 85 = .ok (.ior, 1) := by decide +kernel
theorem dX6_forgotten_86 : decode cX6_forgotten 86 = .ok (.iload 5, 2) := by decide +kernel
theorem dX6_forgotten_88 : decode cX6_forgotten 88 = .ok (.invokestatic 199, 3) := by decide +kernel
theorem dX6_forgotten_91 : decode cX6_forgotten 91 = .ok (.ifCond .eq 13, 3) := by decide +kernel
theorem dX6_forgotten_94 : decode cX6_forgotten 94 = .ok (.iinc 6 1, 3) := by decide +kernel
theorem dX6_forgotten_97 : decode cX6_forgotten 97 = .ok (.iload 7, 2) := by decide +kernel
theorem dX6_forgotten_99 : decode cX6_forgotten 99 = .ok (.iload 8, 2) := by decide +kernel
theorem dX6_forgotten_101 : decode cX6_forgotten 101 = .ok (.iand, 1) := by decide +kernel
theorem dX6_forgotten_102 : decode cX6_forgotten 102 = .ok (.istore 7, 2) := by decide +kernel
theorem dX6_forgotten_104 : decode cX6_forgotten 104 = .ok (.iinc 8 1, 3) := by decide +kernel
theorem dX6_forgotten_107 : decode cX6_forgotten 107 = .ok (.goto (-46), 3) := by decide +kernel
theorem dX6_forgotten_110 : decode cX6_forgotten 110 = .ok (.iload_n 3, 1) := by decide +kernel
theorem dX6_forgotten_111 : decode cX6_forgotten 111 = .ok (.ifCond .ne 6, 3) := by decide +kernel
theorem dX6_forgotten_114 : decode cX6_forgotten 114 = .ok (.iload 6, 2) := by decide +kernel
theorem dX6_forgotten_116 : decode cX6_forgotten 116 = .ok (.ireturn, 1) := by decide +kernel
theorem dX6_forgotten_117 : decode cX6_forgotten 117 = .ok (.iload 6, 2) := by decide +kernel
theorem dX6_forgotten_119 : decode cX6_forgotten 119 = .ok (.ifCond .ne 8, 3) := by decide +kernel
theorem dX6_forgotten_122 : decode cX6_forgotten 122 = .ok (.bipush (-4), 2) := by decide +kernel
theorem dX6_forgotten_124 : decode cX6_forgotten 124 = .ok (.goto 5, 3) := by decide +kernel
theorem dX6_forgotten_127 : decode cX6_forgotten 127 = .ok (.iload 7, 2) := by decide +kernel
theorem dX6_forgotten_129 : decode cX6_forgotten 129 = .ok (.ireturn, 1) := by decide +kernel
theorem dX6_upper_0 : decode cX6_upper 0 = .ok (.aload_n 0, 1) := by decide +kernel
theorem dX6_upper_1 : decode cX6_upper 1 = .ok (.getfield 10, 3) := by decide +kernel
theorem dX6_upper_4 : decode cX6_upper 4 = .ok (.iconst 0, 1) := by decide +kernel
theorem dX6_upper_5 : decode cX6_upper 5 = .ok (.iconst 0, 1) := by decide +kernel
theorem dX6_upper_6 : decode cX6_upper 6 = .ok (.iconst 0, 1) := by decide +kernel
theorem dX6_upper_7 : decode cX6_upper 7 = .ok (.invokestatic 205, 3) := by decide +kernel
theorem dX6_upper_10 : decode cX6_upper 10 = .ok (.lstore_n 1, 1) := by decide +kernel
theorem dX6_upper_11 : decode cX6_upper 11 = .ok (.lload_n 1, 1) := by decide +kernel
theorem dX6_upper_12 : decode cX6_upper 12 = .ok (.lload_n 1, 1) := by decide +kernel
theorem dX6_upper_13 : decode cX6_upper 13 = .ok (.aload_n 0, 1) := by decide +kernel
theorem dX6_upper_14 : decode cX6_upper 14 = .ok (.getfield 10, 3) := by decide +kernel
theorem dX6_upper_17 : decode cX6_upper 17 = .ok (.getfield 58, 3) := by decide +kernel
theorem dX6_upper_20 : decode cX6_upper 20 = .ok (.invokestatic 209, 3) := by decide +kernel
theorem dX6_upper_23 : decode cX6_upper 23 = .ok (.lshr, 1) := by decide +kernel
theorem dX6_upper_24 : decode cX6_upper 24 = .ok (.lreturn, 1) := by decide +kernel
theorem dX6_lower_0 : decode cX6_lower 0 = .ok (.aload_n 0, 1) := by decide +kernel
theorem dX6_lower_1 : decode cX6_lower 1 = .ok (.getfield 10, 3) := by decide +kernel
theorem dX6_lower_4 : decode cX6_lower 4 = .ok (.iconst 0, 1) := by decide +kernel
theorem dX6_lower_5 : decode cX6_lower 5 = .ok (.iconst 0, 1) := by decide +kernel
theorem dX6_lower_6 : decode cX6_lower 6 = .ok (.iconst 0, 1) := by decide +kernel
theorem dX6_lower_7 : decode cX6_lower 7 = .ok (.invokestatic 205, 3) := by decide +kernel
theorem dX6_lower_10 : decode cX6_lower 10 = .ok (.lstore_n 1, 1) := by decide +kernel
theorem dX6_lower_11 : decode cX6_lower 11 = .ok (.aload_n 0, 1) := by decide +kernel
theorem dX6_lower_12 : decode cX6_lower 12 = .ok (.getfield 10, 3) := by decide +kernel
theorem dX6_lower_15 : decode cX6_lower 15 = .ok (.getfield 58, 3) := by decide +kernel
theorem dX6_lower_18 : decode cX6_lower 18 = .ok (.invokestatic 213, 3) := by decide +kernel
theorem dX6_lower_21 : decode cX6_lower 21 = .ok (.lload_n 1, 1) := by decide +kernel
theorem dX6_lower_22 : decode cX6_lower 22 = .ok (.aload_n 0, 1) := by decide +kernel
theorem dX6_lower_23 : decode cX6_lower 23 = .ok (.getfield 10, 3) := by decide +kernel
theorem dX6_lower_26 : decode cX6_lower 26 = .ok (.getfield 58, 3) := by decide +kernel
theorem dX6_lower_29 : decode cX6_lower 29 = .ok (.invokestatic 209, 3) := by decide +kernel
theorem dX6_lower_32 : decode cX6_lower 32 = .ok (.lshr, 1) := by decide +kernel
theorem dX6_lower_33 : decode cX6_lower 33 = .ok (.lreturn, 1) := by decide +kernel
theorem dX6_comes_0 : decode cX6_comes 0 = .ok (.iload_n 1, 1) := by decide +kernel
theorem dX6_comes_1 : decode cX6_comes 1 = .ok (.invokestatic 168, 3) := by decide +kernel
theorem dX6_comes_4 : decode cX6_comes 4 = .ok (.ifCond .eq 10, 3) := by decide +kernel
theorem dX6_comes_7 : decode cX6_comes 7 = .ok (.iload_n 2, 1) := by decide +kernel
theorem dX6_comes_8 : decode cX6_comes 8 = .ok (.invokestatic 101, 3) := by decide +kernel
theorem dX6_comes_11 : decode cX6_comes 11 = .ok (.ifCond .ne 5, 3) := by decide +kernel
theorem dX6_comes_14 : decode cX6_comes 14 = .ok (.iconst (-1), 1) := by decide +kernel
theorem dX6_comes_15 : decode cX6_comes 15 = .ok (.ireturn, 1) := by decide +kernel
theorem dX6_comes_16 : decode cX6_comes 16 = .ok (.aload_n 0, 1) := by decide +kernel
theorem dX6_comes_17 : decode cX6_comes 17 = .ok (.getfield 19, 3) := by decide +kernel
theorem dX6_comes_20 : decode cX6_comes 20 = .ok (.aload_n 0, 1) := by decide +kernel
theorem dX6_comes_21 : decode cX6_comes 21 = .ok (.getfield 10, 3) := by decide +kernel
theorem dX6_comes_24 : decode cX6_comes 24 = .ok (.invokevirtual 137, 3) := by decide +kernel
theorem dX6_comes_27 : decode cX6_comes 27 = .ok (.aload_n 0, 1) := by decide +kernel
theorem dX6_comes_28 : decode cX6_comes 28 = .ok (.getfield 36, 3) := by decide +kernel
theorem dX6_comes_31 : decode cX6_comes 31 = .ok (.iconst 0, 1) := by decide +kernel
theorem dX6_comes_32 : decode cX6_comes 32 = .ok (.aload_n 0, 1) := by decide +kernel
theorem dX6_comes_33 : decode cX6_comes 33 = .ok (.getfield 19, 3) := by decide +kernel
theorem dX6_comes_36 : decode cX6_comes 36 = .ok (.getfield 118, 3) := by decide +kernel
theorem dX6_comes_39 : decode cX6_comes 39 = .ok (.iastore, 1) := by decide +kernel
theorem dX6_comes_40 : decode cX6_comes 40 = .ok (.iconst 1, 1) := by decide +kernel
theorem dX6_comes_41 : decode cX6_comes 41 = .ok (.istore_n 3, 1) := by decide +kernel
theorem dX6_comes_42 : decode cX6_comes 42 = .ok (.iload_n 3, 1) := by decide +kernel
theorem dX6_comes_43 : decode cX6_comes 43 = .ok (.bipush 60, 2) := by decide +kernel
theorem dX6_comes_45 : decode cX6_comes 45 = .ok (.if_icmp .gt 90, 3) := by decide +kernel
theorem dX6_comes_48 : decode cX6_comes 48 = .ok (.aload_n 0, 1) := by decide +kernel
theorem dX6_comes_49 : decode cX6_comes 49 = .ok (.getfield 19, 3) := by decide +kernel
theorem dX6_comes_52 : decode cX6_comes 52 = .ok (.aload_n 0, 1) := by decide +kernel
theorem dX6_comes_53 : decode cX6_comes 53 = .ok (.getfield 19, 3) := by decide +kernel
theorem dX6_comes_56 : decode cX6_comes 56 = .ok (.iload_n 1, 1) := by decide +kernel
theorem dX6_comes_57 : decode cX6_comes 57 = .ok (.iconst 0, 1) := by decide +kernel
theorem dX6_comes_58 : decode cX6_comes 58 = .ok (.invokestatic 171, 3) := by decide +kernel
theorem dX6_comes_61 : decode cX6_comes 61 = .ok (.putfield 91, 3) := by decide +kernel
theorem dX6_comes_64 : decode cX6_comes 64 = .ok (.aload_n 0, 1) := by decide +kernel
theorem dX6_comes_65 : decode cX6_comes 65 = .ok (.getfield 19, 3) := by decide +kernel
theorem dX6_comes_68 : decode cX6_comes 68 = .ok (.invokevirtual 148, 3) := by decide +kernel
theorem dX6_comes_71 : decode cX6_comes 71 = .ok (.iconst 0, 1) := by decide +kernel
theorem dX6_comes_72 : decode cX6_comes 72 = .ok (.istore 4, 2) := by decide +kernel
theorem dX6_comes_74 : decode cX6_comes 74 = .ok (.iload 4, 2) := by decide +kernel
theorem dX6_comes_76 : decode cX6_comes 76 = .ok (.iload_n 3, 1) := by decide +kernel
theorem dX6_comes_77 : decode cX6_comes 77 = .ok (.if_icmp .ge 39, 3) := by decide +kernel
theorem dX6_comes_80 : decode cX6_comes 80 = .ok (.aload_n 0, 1) := by decide +kernel
theorem dX6_comes_81 : decode cX6_comes 81 = .ok (.getfield 36, 3) := by decide +kernel
theorem dX6_comes_84 : decode cX6_comes 84 = .ok (.iload 4, 2) := by decide +kernel
theorem dX6_comes_86 : decode cX6_comes 86 = .ok (.iaload, 1) := by decide +kernel
theorem dX6_comes_87 : decode cX6_comes 87 = .ok (.aload_n 0, 1) := by decide +kernel
theorem dX6_comes_88 : decode cX6_comes 88 = .ok (.getfield 19, 3) := by decide +kernel
theorem dX6_comes_91 : decode cX6_comes 91 = .ok (.getfield 118, 3) := by decide +kernel
theorem dX6_comes_94 : decode cX6_comes 94 = .ok (.if_icmp .ne 16, 3) := by decide +kernel
theorem dX6_comes_97 : decode cX6_comes 97 = .ok (.iload_n 2, 1) := by decide +kernel
theorem dX6_comes_98 : decode cX6_comes 98 = .ok (.ifCond .ne 7, 3) := by decide +kernel
theorem dX6_comes_101 : decode cX6_comes 101 = .ok (.iload_n 3, 1) := by decide +kernel
theorem dX6_comes_102 : decode cX6_comes 102 = .ok (.goto 7, 3) := by decide +kernel
theorem dX6_comes_105 : decode cX6_comes 105 = .ok (.iload_n 3, 1) := by decide +kernel
theorem dX6_comes_106 : decode cX6_comes 106 = .ok (.iload 4, 2) := by decide +kernel
theorem dX6_comes_108 : decode cX6_comes 108 = .ok (.isub, 1) := by decide +kernel
theorem dX6_comes_109 : decode cX6_comes 109 = .ok (.ireturn, 1) := by decide +kernel
theorem dX6_comes_110 : decode cX6_comes 110 = .ok (.iinc 4 1, 3) := by decide +kernel
theorem dX6_comes_113 : decode cX6_comes 113 = .ok (.goto (-39), 3) := by decide +kernel
theorem dX6_comes_116 : decode cX6_comes 116 = .ok (.aload_n 0, 1) := by decide +kernel
theorem dX6_comes_117 : decode cX6_comes 117 = .ok (.getfield 36, 3) := by decide +kernel
theorem dX6_comes_120 : decode cX6_comes 120 = .ok (.iload_n 3, 1) := by decide +kernel
theorem dX6_comes_121 : decode cX6_comes 121 = .ok (.aload_n 0, 1) := by decide +kernel
theorem dX6_comes_122 : decode cX6_comes 122 = .ok (.getfield 19, 3) := by decide +kernel
theorem dX6_comes_125 : decode cX6_comes 125 = .ok (.getfield 118, 3) := by decide +kernel
theorem dX6_comes_128 : decode cX6_comes 128 = .ok (.iastore, 1) := by decide +kernel
theorem dX6_comes_129 : decode cX6_comes 129 = .ok (.iinc 3 1, 3) := by decide +kernel
theorem dX6_comes_132 : decode cX6_comes 132 = .ok (.goto (-90), 3) := by decide +kernel
theorem dX6_comes_135 : decode cX6_comes 135 = .ok (.bipush (-4), 2) := by decide +kernel
theorem dX6_comes_137 : decode cX6_comes 137 = .ok (.ireturn, 1) := by decide +kernel
theorem dX6_image_0 : decode cX6_image 0 = .ok (.aload_n 0, 1) := by decide +kernel
theorem dX6_image_1 : decode cX6_image 1 = .ok (.getfield 16, 3) := by decide +kernel
theorem dX6_image_4 : decode cX6_image 4 = .ok (.aload_n 0, 1) := by decide +kernel
theorem dX6_image_5 : decode cX6_image 5 = .ok (.getfield 10, 3) := by decide +kernel
theorem dX6_image_8 : decode cX6_image 8 = .ok (.invokevirtual 137, 3) := by decide +kernel
theorem dX6_image_11 : decode cX6_image 11 = .ok (.aload_n 0, 1) := by decide +kernel
theorem dX6_image_12 : decode cX6_image 12 = .ok (.iconst 1, 1) := by decide +kernel
theorem dX6_image_13 : decode cX6_image 13 = .ok (.putfield 46, 3) := by decide +kernel
theorem dX6_image_16 : decode cX6_image 16 = .ok (.iconst 1, 1) := by decide +kernel
theorem dX6_image_17 : decode cX6_image 17 = .ok (.ireturn, 1) := by decide +kernel
theorem dX6_restore_0 : decode cX6_restore 0 = .ok (.aload_n 0, 1) := by decide +kernel
theorem dX6_restore_1 : decode cX6_restore 1 = .ok (.getfield 46, 3) := by decide +kernel
theorem dX6_restore_4 : decode cX6_restore 4 = .ok (.ifCond .ne 6, 3) := by decide +kernel
theorem dX6_restore_7 : decode cX6_restore 7 = .ok (.bipush (-4), 2) := by decide +kernel
theorem dX6_restore_9 : decode cX6_restore 9 = .ok (.ireturn, 1) := by decide +kernel
theorem dX6_restore_10 : decode cX6_restore 10 = .ok (.aload_n 0, 1) := by decide +kernel
theorem dX6_restore_11 : decode cX6_restore 11 = .ok (.getfield 10, 3) := by decide +kernel
theorem dX6_restore_14 : decode cX6_restore 14 = .ok (.aload_n 0, 1) := by decide +kernel
theorem dX6_restore_15 : decode cX6_restore 15 = .ok (.getfield 16, 3) := by decide +kernel
theorem dX6_restore_18 : decode cX6_restore 18 = .ok (.invokevirtual 137, 3) := by decide +kernel
theorem dX6_restore_21 : decode cX6_restore 21 = .ok (.iconst 1, 1) := by decide +kernel
theorem dX6_restore_22 : decode cX6_restore 22 = .ok (.ireturn, 1) := by decide +kernel
theorem dX6_judged_0 : decode cX6_judged 0 = .ok (.aload_n 0, 1) := by decide +kernel
theorem dX6_judged_1 : decode cX6_judged 1 = .ok (.getfield 32, 3) := by decide +kernel
theorem dX6_judged_4 : decode cX6_judged 4 = .ok (.iload_n 1, 1) := by decide +kernel
theorem dX6_judged_5 : decode cX6_judged 5 = .ok (.iload_n 2, 1) := by decide +kernel
theorem dX6_judged_6 : decode cX6_judged 6 = .ok (.iload_n 3, 1) := by decide +kernel
theorem dX6_judged_7 : decode cX6_judged 7 = .ok (.bipush 12, 2) := by decide +kernel
theorem dX6_judged_9 : decode cX6_judged 9 = .ok (.invokevirtual 217, 3) := by decide +kernel
theorem dX6_judged_12 : decode cX6_judged 12 = .ok (.istore 4, 2) := by decide +kernel
theorem dX6_judged_14 : decode cX6_judged 14 = .ok (.iload 4, 2) := by decide +kernel
theorem dX6_judged_16 : decode cX6_judged 16 = .ok (.ifCond .eq 6, 3) := by decide +kernel
theorem dX6_judged_19 : decode cX6_judged 19 = .ok (.iload 4, 2) := by decide +kernel
theorem dX6_judged_21 : decode cX6_judged 21 = .ok (.ireturn, 1) := by decide +kernel
theorem dX6_judged_22 : decode cX6_judged 22 = .ok (.aload_n 0, 1) := by decide +kernel
theorem dX6_judged_23 : decode cX6_judged 23 = .ok (.getfield 10, 3) := by decide +kernel
theorem dX6_judged_26 : decode cX6_judged 26 = .ok (.iconst 0, 1) := by decide +kernel
theorem dX6_judged_27 : decode cX6_judged 27 = .ok (.invokevirtual 94, 3) := by decide +kernel
theorem dX6_judged_30 : decode cX6_judged 30 = .ok (.istore 5, 2) := by decide +kernel
theorem dX6_judged_32 : decode cX6_judged 32 = .ok (.iconst 0, 1) := by decide +kernel
theorem dX6_judged_33 : decode cX6_judged 33 = .ok (.istore 6, 2) := by decide +kernel
theorem dX6_judged_35 : decode cX6_judged 35 = .ok (.iload 6, 2) := by decide +kernel
theorem dX6_judged_37 : decode cX6_judged 37 = .ok (.bipush 12, 2) := by decide +kernel
theorem dX6_judged_39 : decode cX6_judged 39 = .ok (.if_icmp .ge 58, 3) := by decide +kernel
theorem dX6_judged_42 : decode cX6_judged 42 = .ok (.aload_n 0, 1) := by decide +kernel
theorem dX6_judged_43 : decode cX6_judged 43 = .ok (.getfield 32, 3) := by decide +kernel
theorem dX6_judged_46 : decode cX6_judged 46 = .ok (.iload_n 1, 1) := by decide +kernel
theorem dX6_judged_47 : decode cX6_judged 47 = .ok (.iload_n 3, 1) := by decide +kernel
theorem dX6_judged_48 : decode cX6_judged 48 = .ok (.iload 6, 2) := by decide +kernel
theorem dX6_judged_50 : decode cX6_judged 50 = .ok (.iadd, 1) := by decide +kernel
theorem dX6_judged_51 : decode cX6_judged 51 = .ok (.invokevirtual 221, 3) := by decide +kernel
theorem dX6_judged_54 : decode cX6_judged 54 = .ok (.lstore 7, 2) := by decide +kernel
theorem dX6_judged_56 : decode cX6_judged 56 = .ok (.lload 7, 2) := by decide +kernel
theorem dX6_judged_58 : decode cX6_judged 58 = .ok (.ldc2_w 225, 3) := by decide +kernel
theorem dX6_judged_61 : decode cX6_judged 61 = .ok (.lcmp, 1) := by decide +kernel
theorem dX6_judged_62 : decode cX6_judged 62 = .ok (.ifCond .eq 29, 3) := by decide +kernel
theorem dX6_judged_65 : decode cX6_judged 65 = .ok (.lload 7, 2) := by decide +kernel
theorem dX6_judged_67 : decode cX6_judged 67 = .ok (.iload 5, 2) := by decide +kernel
theorem dX6_judged_69 : decode cX6_judged 69 = .ok (.aload_n 0, 1) := by decide +kernel
theorem dX6_judged_70 : decode cX6_judged 70 = .ok (.getfield 10, 3) := by decide +kernel
theorem dX6_judged_73 : decode cX6_judged 73 = .ok (.bipush 11, 2) := by decide +kernel
theorem dX6_judged_75 : decode cX6_judged 75 = .ok (.iload 6, 2) := by decide +kernel
theorem dX6_judged_77 : decode cX6_judged 77 = .ok (.isub, 1) := by decide +kernel
theorem dX6_judged_78 : decode cX6_judged 78 = .ok (.invokevirtual 144, 3) := by decide +kernel
theorem dX6_judged_81 : decode cX6_judged 81 = .ok (.iand, 1) := by decide +kernel
theorem dX6_judged_82 : decode cX6_judged 82 = .ok (.invokestatic 227, 3) := by decide +kernel
theorem dX6_judged_85 : decode cX6_judged 85 = .ok (.ifCond .ne 6, 3) := by decide +kernel
theorem dX6_judged_88 : decode cX6_judged 88 = .ok (.iload 6, 2) := by decide +kernel
theorem dX6_judged_90 : decode cX6_judged 90 = .ok (.ireturn, 1) := by decide +kernel
theorem dX6_judged_91 : decode cX6_judged 91 = .ok (.iinc 6 1, 3) := by decide +kernel
theorem dX6_judged_94 : decode cX6_judged 94 = .ok (.goto (-59), 3) := by decide +kernel
theorem dX6_judged_97 : decode cX6_judged 97 = .ok (.bipush (-4), 2) := by decide +kernel
theorem dX6_judged_99 : decode cX6_judged 99 = .ok (.ireturn, 1) := by decide +kernel
theorem dX6_net_0 : decode cX6_net 0 = .ok (.aload_n 0, 1) := by decide +kernel
theorem dX6_net_1 : decode cX6_net 1 = .ok (.getfield 10, 3) := by decide +kernel
theorem dX6_net_4 : decode cX6_net 4 = .ok (.iload_n 1, 1) := by decide +kernel
theorem dX6_net_5 : decode cX6_net 5 = .ok (.invokevirtual 73, 3) := by decide +kernel
theorem dX6_net_8 : decode cX6_net 8 = .ok (.ifCond .eq 24, 3) := by decide +kernel
theorem dX6_net_11 : decode cX6_net 11 = .ok (.iload 5, 2) := by decide +kernel
theorem dX6_net_13 : decode cX6_net 13 = .ok (.iconst 1, 1) := by decide +kernel
theorem dX6_net_14 : decode cX6_net 14 = .ok (.if_icmp .lt 18, 3) := by decide +kernel
theorem dX6_net_17 : decode cX6_net 17 = .ok (.iload 5, 2) := by decide +kernel
theorem dX6_net_19 : decode cX6_net 19 = .ok (.bipush 8, 2) := by decide +kernel
theorem dX6_net_21 : decode cX6_net 21 = .ok (.if_icmp .gt 11, 3) := by decide +kernel
theorem dX6_net_24 : decode cX6_net 24 = .ok (.iload 6, 2) := by decide +kernel
theorem dX6_net_26 : decode cX6_net 26 = .ok (.invokestatic 101, 3) := by decide +kernel
theorem dX6_net_29 : decode cX6_net 29 = .ok (.ifCond .ne 5, 3) := by decide +kernel
theorem dX6_net_32 : decode cX6_net 32 = .ok (.iconst (-1), 1) := by decide +kernel
theorem dX6_net_33 : decode cX6_net 33 = .ok (.ireturn, 1) := by decide +kernel
theorem dX6_net_34 : decode cX6_net 34 = .ok (.aload_n 0, 1) := by decide +kernel
theorem dX6_net_35 : decode cX6_net 35 = .ok (.getfield 32, 3) := by decide +kernel
theorem dX6_net_38 : decode cX6_net 38 = .ok (.iload_n 2, 1) := by decide +kernel
theorem dX6_net_39 : decode cX6_net 39 = .ok (.iload_n 3, 1) := by decide +kernel
theorem dX6_net_40 : decode cX6_net 40 = .ok (.iload 4, 2) := by decide +kernel
theorem dX6_net_42 : decode cX6_net 42 = .ok (.iload 5, 2) := by decide +kernel
theorem dX6_net_44 : decode cX6_net 44 = .ok (.invokevirtual 217, 3) := by decide +kernel
theorem dX6_net_47 : decode cX6_net 47 = .ok (.istore 7, 2) := by decide +kernel
theorem dX6_net_49 : decode cX6_net 49 = .ok (.iload 7, 2) := by decide +kernel
theorem dX6_net_51 : decode cX6_net 51 = .ok (.ifCond .eq 6, 3) := by decide +kernel
theorem dX6_net_54 : decode cX6_net 54 = .ok (.iload 7, 2) := by decide +kernel
theorem dX6_net_56 : decode cX6_net 56 = .ok (.ireturn, 1) := by decide +kernel
theorem dX6_net_57 : decode cX6_net 57 = .ok (.aload_n 0, 1) := by decide +kernel
theorem dX6_net_58 : decode cX6_net 58 = .ok (.iload_n 2, 1) := by decide +kernel
theorem dX6_net_59 : decode cX6_net 59 = .ok (.iload 4, 2) := by decide +kernel
theorem dX6_net_61 : decode cX6_net 61 = .ok (.iload 5, 2) := by decide +kernel
theorem dX6_net_63 : decode cX6_net 63 = .ok (.invokevirtual 231, 3) := by decide +kernel
theorem dX6_net_66 : decode cX6_net 66 = .ok (.ifCond .ne 6, 3) := by decide +kernel
theorem dX6_net_69 : decode cX6_net 69 = .ok (.bipush (-2), 2) := by decide +kernel
theorem dX6_net_71 : decode cX6_net 71 = .ok (.ireturn, 1) := by decide +kernel
theorem dX6_net_72 : decode cX6_net 72 = .ok (.aload_n 0, 1) := by decide +kernel
theorem dX6_net_73 : decode cX6_net 73 = .ok (.getfield 10, 3) := by decide +kernel
theorem dX6_net_76 : decode cX6_net 76 = .ok (.iload_n 1, 1) := by decide +kernel
theorem dX6_net_77 : decode cX6_net 77 = .ok (.aload_n 0, 1) := by decide +kernel
theorem dX6_net_78 : decode cX6_net 78 = .ok (.getfield 10, 3) := by decide +kernel
theorem dX6_net_81 : decode cX6_net 81 = .ok (.getfield 79, 3) := by decide +kernel
theorem dX6_net_84 : decode cX6_net 84 = .ok (.iload_n 1, 1) := by decide +kernel
theorem dX6_net_85 : decode cX6_net 85 = .ok (.iaload, 1) := by decide +kernel
theorem dX6_net_86 : decode cX6_net 86 = .ok (.invokevirtual 61, 3) := by decide +kernel
theorem dX6_net_89 : decode cX6_net 89 = .ok (.istore 8, 2) := by decide +kernel
theorem dX6_net_91 : decode cX6_net 91 = .ok (.iconst 0, 1) := by decide +kernel
theorem dX6_net_92 : decode cX6_net 92 = .ok (.istore 9, 2) := by decide +kernel
theorem dX6_net_94 : decode cX6_net 94 = .ok (.bipush (-4), 2) := by decide +kernel
theorem dX6_net_96 : decode cX6_net 96 = .ok (.istore 10, 2) := by decide +kernel
theorem dX6_net_98 : decode cX6_net 98 = .ok (.iload 8, 2) := by decide +kernel
theorem dX6_net_100 : decode cX6_net 100 = .ok (.istore 11, 2) := by decide +kernel
theorem dX6_net_102 : decode cX6_net 102 = .ok (.iload 11, 2) := by decide +kernel
theorem dX6_net_104 : decode cX6_net 104 = .ok (.ifCond .lt 52, 3) := by decide +kernel
theorem dX6_net_107 : decode cX6_net 107 = .ok (.iload 11, 2) := by decide +kernel
theorem dX6_net_109 : decode cX6_net 109 = .ok (.iload 8, 2) := by decide +kernel
theorem dX6_net_111 : decode cX6_net 111 = .ok (.invokestatic 65, 3) := by decide +kernel
theorem dX6_net_114 : decode cX6_net 114 = .ok (.ifCond .eq 36, 3) := by decide +kernel
theorem dX6_net_117 : decode cX6_net 117 = .ok (.aload_n 0, 1) := by decide +kernel
theorem dX6_net_118 : decode cX6_net 118 = .ok (.getfield 10, 3) := by decide +kernel
theorem dX6_net_121 : decode cX6_net 121 = .ok (.getfield 76, 3) := by decide +kernel
theorem dX6_net_124 : decode cX6_net 124 = .ok (.iload_n 1, 1) := by decide +kernel
theorem dX6_net_125 : decode cX6_net 125 = .ok (.iaload, 1) := by decide +kernel
theorem dX6_net_126 : decode cX6_net 126 = .ok (.iload 11, 2) := by decide +kernel
theorem dX6_net_128 : decode cX6_net 128 = .ok (.iconst 1, 1) := by decide +kernel
theorem dX6_net_129 : decode cX6_net 129 = .ok (.iload_n 1, 1) := by decide +kernel
theorem dX6_net_130 : decode cX6_net 130 = .ok (.ishl, 1) := by decide +kernel
theorem dX6_net_131 : decode cX6_net 131 = .ok (.aload_n 0, 1) := by decide +kernel
theorem dX6_net_132 : decode cX6_net 132 = .ok (.getfield 40, 3) := by decide +kernel
theorem dX6_net_135 : decode cX6_net 135 = .ok (.iload 5, 2) := by decide +kernel
theorem dX6_net_137 : decode cX6_net 137 = .ok (.invokestatic 234, 3) := by decide +kernel
theorem dX6_net_140 : decode cX6_net 140 = .ok (.ifCond .eq 10, 3) := by decide +kernel
theorem dX6_net_143 : decode cX6_net 143 = .ok (.iinc 9 1, 3) := by decide +kernel
theorem dX6_net_146 : decode cX6_net 146 = .ok (.iload 11, 2) := by decide +kernel
theorem dX6_net_148 : decode cX6_net 148 = .ok (.istore 10, 2) := by decide +kernel
theorem dX6_net_150 : decode cX6_net 150 = .ok (.iinc 11 (-1), 3) := by decide +kernel
theorem dX6_net_153 : decode cX6_net 153 = .ok (.goto (-51), 3) := by decide +kernel
theorem dX6_net_156 : decode cX6_net 156 = .ok (.iload 6, 2) := by decide +kernel
theorem dX6_net_158 : decode cX6_net 158 = .ok (.ifCond .ne 8, 3) := by decide +kernel
theorem dX6_net_161 : decode cX6_net 161 = .ok (.iload 9, 2) := by decide +kernel
theorem dX6_net_163 : decode cX6_net 163 = .ok (.goto 5, 3) := by decide +kernel
theorem dX6_net_166 : decode cX6_net 166 = .ok (.iload 10, 2) := by decide +kernel
theorem dX6_net_168 : decode cX6_net 168 = .ok (.ireturn, 1) := by decide +kernel
theorem dX6_film_0 : decode cX6_film 0 = .ok (.aload_n 0, 1) := by decide +kernel
theorem dX6_film_1 : decode cX6_film 1 = .ok (.getfield 32, 3) := by decide +kernel
theorem dX6_film_4 : decode cX6_film 4 = .ok (.iload_n 1, 1) := by decide +kernel
theorem dX6_film_5 : decode cX6_film 5 = .ok (.iload_n 2, 1) := by decide +kernel
theorem dX6_film_6 : decode cX6_film 6 = .ok (.iload_n 3, 1) := by decide +kernel
theorem dX6_film_7 : decode cX6_film 7 = .ok (.aload_n 0, 1) := by decide +kernel
theorem dX6_film_8 : decode cX6_film 8 = .ok (.getfield 10, 3) := by decide +kernel
theorem dX6_film_11 : decode cX6_film 11 = .ok (.getfield 50, 3) := by decide +kernel
theorem dX6_film_14 : decode cX6_film 14 = .ok (.invokevirtual 217, 3) := by decide +kernel
theorem dX6_film_17 : decode cX6_film 17 = .ok (.istore 4, 2) := by decide +kernel
theorem dX6_film_19 : decode cX6_film 19 = .ok (.iload 4, 2) := by decide +kernel
theorem dX6_film_21 : decode cX6_film 21 = .ok (.ifCond .eq 6, 3) := by decide +kernel
theorem dX6_film_24 : decode cX6_film 24 = .ok (.iload 4, 2) := by decide +kernel
theorem dX6_film_26 : decode cX6_film 26 = .ok (.ireturn, 1) := by decide +kernel
theorem dX6_film_27 : decode cX6_film 27 = .ok (.iconst 0, 1) := by decide +kernel
theorem dX6_film_28 : decode cX6_film 28 = .ok (.istore 5, 2) := by decide +kernel
theorem dX6_film_30 : decode cX6_film 30 = .ok (.iload 5, 2) := by decide +kernel
theorem dX6_film_32 : decode cX6_film 32 = .ok (.aload_n 0, 1) := by decide +kernel
theorem dX6_film_33 : decode cX6_film 33 = .ok (.getfield 10, 3) := by decide +kernel
theorem dX6_film_36 : decode cX6_film 36 = .ok (.getfield 50, 3) := by decide +kernel
theorem dX6_film_39 : decode cX6_film 39 = .ok (.if_icmp .ge 38, 3) := by decide +kernel
theorem dX6_film_42 : decode cX6_film 42 = .ok (.aload_n 0, 1) := by decide +kernel
theorem dX6_film_43 : decode cX6_film 43 = .ok (.getfield 32, 3) := by decide +kernel
theorem dX6_film_46 : decode cX6_film 46 = .ok (.iload_n 1, 1) := by decide +kernel
theorem dX6_film_47 : decode cX6_film 47 = .ok (.iload_n 3, 1) := by decide +kernel
theorem dX6_film_48 : decode cX6_film 48 = .ok (.iload 5, 2) := by decide +kernel
theorem dX6_film_50 : decode cX6_film 50 = .ok (.iadd, 1) := by decide +kernel
theorem dX6_film_51 : decode cX6_film 51 = .ok (.aload_n 0, 1) := by decide +kernel
theorem dX6_film_52 : decode cX6_film 52 = .ok (.getfield 10, 3) := by decide +kernel
theorem dX6_film_55 : decode cX6_film 55 = .ok (.iload 5, 2) := by decide +kernel
theorem dX6_film_57 : decode cX6_film 57 = .ok (.aload_n 0, 1) := by decide +kernel
theorem dX6_film_58 : decode cX6_film 58 = .ok (.getfield 10, 3) := by decide +kernel
theorem dX6_film_61 : decode cX6_film 61 = .ok (.getfield 91, 3) := by decide +kernel
theorem dX6_film_64 : decode cX6_film 64 = .ok (.invokevirtual 162, 3) := by decide +kernel
theorem dX6_film_67 : decode cX6_film 67 = .ok (.i2l, 1) := by decide +kernel
theorem dX6_film_68 : decode cX6_film 68 = .ok (.invokevirtual 238, 3) := by decide +kernel
theorem dX6_film_71 : decode cX6_film 71 = .ok (.iinc 5 1, 3) := by decide +kernel
theorem dX6_film_74 : decode cX6_film 74 = .ok (.goto (-44), 3) := by decide +kernel
theorem dX6_film_77 : decode cX6_film 77 = .ok (.aload_n 0, 1) := by decide +kernel
theorem dX6_film_78 : decode cX6_film 78 = .ok (.getfield 10, 3) := by decide +kernel
theorem dX6_film_81 : decode cX6_film 81 = .ok (.getfield 50, 3) := by decide +kernel
theorem dX6_film_84 : decode cX6_film 84 = .ok (.ireturn, 1) := by decide +kernel
theorem dX6_sheet_0 : decode cX6_sheet 0 = .ok (.iload_n 1, 1) := by decide +kernel
theorem dX6_sheet_1 : decode cX6_sheet 1 = .ok (.invokestatic 242, 3) := by decide +kernel
theorem dX6_sheet_4 : decode cX6_sheet 4 = .ok (.ifCond .eq 16, 3) := by decide +kernel
theorem dX6_sheet_7 : decode cX6_sheet 7 = .ok (.iload_n 2, 1) := by decide +kernel
theorem dX6_sheet_8 : decode cX6_sheet 8 = .ok (.invokestatic 245, 3) := by decide +kernel
theorem dX6_sheet_11 : decode cX6_sheet 11 = .ok (.ifCond .eq 9, 3) := by decide +kernel
theorem dX6_sheet_14 : decode cX6_sheet 14 = .ok (.iload_n 3, 1) := by decide +kernel
theorem dX6_sheet_15 : decode cX6_sheet 15 = .ok (.bipush 16, 2) := by decide +kernel
theorem dX6_sheet_17 : decode cX6_sheet 17 = .ok (.if_icmp .le 5, 3) := by decide +kernel
theorem dX6_sheet_20 : decode cX6_sheet 20 = .ok (.iconst (-1), 1) := by decide +kernel
theorem dX6_sheet_21 : decode cX6_sheet 21 = .ok (.ireturn, 1) := by decide +kernel
theorem dX6_sheet_22 : decode cX6_sheet 22 = .ok (.iload_n 3, 1) := by decide +kernel
theorem dX6_sheet_23 : decode cX6_sheet 23 = .ok (.ifCond .ge 6, 3) := by decide +kernel
theorem dX6_sheet_26 : decode cX6_sheet 26 = .ok (.bipush (-14), 2) := by decide +kernel
theorem dX6_sheet_28 : decode cX6_sheet 28 = .ok (.ireturn, 1) := by decide +kernel
theorem dX6_sheet_29 : decode cX6_sheet 29 = .ok (.aload_n 0, 1) := by decide +kernel
theorem dX6_sheet_30 : decode cX6_sheet 30 = .ok (.getfield 32, 3) := by decide +kernel
theorem dX6_sheet_33 : decode cX6_sheet 33 = .ok (.iload_n 1, 1) := by decide +kernel
theorem dX6_sheet_34 : decode cX6_sheet 34 = .ok (.iload_n 2, 1) := by decide +kernel
theorem dX6_sheet_35 : decode cX6_sheet 35 = .ok (.iload_n 3, 1) := by decide +kernel
theorem dX6_sheet_36 : decode cX6_sheet 36 = .ok (.invokevirtual 248, 3) := by decide +kernel
theorem dX6_sheet_39 : decode cX6_sheet 39 = .ok (.iload_n 3, 1) := by decide +kernel
theorem dX6_sheet_40 : decode cX6_sheet 40 = .ok (.ireturn, 1) := by decide +kernel
theorem dX6_drop_0 : decode cX6_drop 0 = .ok (.iload_n 1, 1) := by decide +kernel
theorem dX6_drop_1 : decode cX6_drop 1 = .ok (.invokestatic 242, 3) := by decide +kernel
theorem dX6_drop_4 : decode cX6_drop 4 = .ok (.ifCond .ne 5, 3) := by decide +kernel
theorem dX6_drop_7 : decode cX6_drop 7 = .ok (.iconst (-1), 1) := by decide +kernel
theorem dX6_drop_8 : decode cX6_drop 8 = .ok (.ireturn, 1) := by decide +kernel
theorem dX6_drop_9 : decode cX6_drop 9 = .ok (.aload_n 0, 1) := by decide +kernel
theorem dX6_drop_10 : decode cX6_drop 10 = .ok (.getfield 32, 3) := by decide +kernel
theorem dX6_drop_13 : decode cX6_drop 13 = .ok (.iload_n 1, 1) := by decide +kernel
theorem dX6_drop_14 : decode cX6_drop 14 = .ok (.invokevirtual 252, 3) := by decide +kernel
theorem dX6_drop_17 : decode cX6_drop 17 = .ok (.ifCond .ne 6, 3) := by decide +kernel
theorem dX6_drop_20 : decode cX6_drop 20 = .ok (.bipush (-11), 2) := by decide +kernel
theorem dX6_drop_22 : decode cX6_drop 22 = .ok (.ireturn, 1) := by decide +kernel
theorem dX6_drop_23 : decode cX6_drop 23 = .ok (.aload_n 0, 1) := by decide +kernel
theorem dX6_drop_24 : decode cX6_drop 24 = .ok (.getfield 32, 3) := by decide +kernel
theorem dX6_drop_27 : decode cX6_drop 27 = .ok (.getfield 255, 3) := by decide +kernel
theorem dX6_drop_30 : decode cX6_drop 30 = .ok (.iload_n 1, 1) := by decide +kernel
theorem dX6_drop_31 : decode cX6_drop 31 = .ok (.iaload, 1) := by decide +kernel
theorem dX6_drop_32 : decode cX6_drop 32 = .ok (.istore_n 2, 1) := by decide +kernel
theorem dX6_drop_33 : decode cX6_drop 33 = .ok (.aload_n 0, 1) := by decide +kernel
theorem dX6_drop_34 : decode cX6_drop 34 = .ok (.getfield 32, 3) := by decide +kernel
theorem dX6_drop_37 : decode cX6_drop 37 = .ok (.iload_n 1, 1) := by decide +kernel
theorem dX6_drop_38 : decode cX6_drop 38 = .ok (.iconst (-1), 1) := by decide +kernel
theorem dX6_drop_39 : decode cX6_drop 39 = .ok (.iconst 0, 1) := by decide +kernel
theorem dX6_drop_40 : decode cX6_drop 40 = .ok (.invokevirtual 248, 3) := by decide +kernel
theorem dX6_drop_43 : decode cX6_drop 43 = .ok (.iload_n 2, 1) := by decide +kernel
theorem dX6_drop_44 : decode cX6_drop 44 = .ok (.ireturn, 1) := by decide +kernel
theorem dX6_item_0 : decode cX6_item 0 = .ok (.aload_n 0, 1) := by decide +kernel
theorem dX6_item_1 : decode cX6_item 1 = .ok (.getfield 32, 3) := by decide +kernel
theorem dX6_item_4 : decode cX6_item 4 = .ok (.iload_n 1, 1) := by decide +kernel
theorem dX6_item_5 : decode cX6_item 5 = .ok (.iload_n 2, 1) := by decide +kernel
theorem dX6_item_6 : decode cX6_item 6 = .ok (.iload_n 3, 1) := by decide +kernel
theorem dX6_item_7 : decode cX6_item 7 = .ok (.iconst 1, 1) := by decide +kernel
theorem dX6_item_8 : decode cX6_item 8 = .ok (.invokevirtual 217, 3) := by decide +kernel
theorem dX6_item_11 : decode cX6_item 11 = .ok (.istore 6, 2) := by decide +kernel
theorem dX6_item_13 : decode cX6_item 13 = .ok (.iload 6, 2) := by decide +kernel
theorem dX6_item_15 : decode cX6_item 15 = .ok (.ifCond .eq 6, 3) := by decide +kernel
theorem dX6_item_18 : decode cX6_item 18 = .ok (.iload 6, 2) := by decide +kernel
theorem dX6_item_20 : decode cX6_item 20 = .ok (.ireturn, 1) := by decide +kernel
theorem dX6_item_21 : decode cX6_item 21 = .ok (.aload_n 0, 1) := by decide +kernel
theorem dX6_item_22 : decode cX6_item 22 = .ok (.getfield 32, 3) := by decide +kernel
theorem dX6_item_25 : decode cX6_item 25 = .ok (.iload_n 1, 1) := by decide +kernel
theorem dX6_item_26 : decode cX6_item 26 = .ok (.iload_n 3, 1) := by decide +kernel
theorem dX6_item_27 : decode cX6_item 27 = .ok (.lload 4, 2) := by decide +kernel
theorem dX6_item_29 : decode cX6_item 29 = .ok (.invokevirtual 238, 3) := by decide +kernel
theorem dX6_item_32 : decode cX6_item 32 = .ok (.iconst 1, 1) := by decide +kernel
theorem dX6_item_33 : decode cX6_item 33 = .ok (.ireturn, 1) := by decide +kernel
theorem dX6_copy_0 : decode cX6_copy 0 = .ok (.iload_n 1, 1) := by decide +kernel
theorem dX6_copy_1 : decode cX6_copy 1 = .ok (.invokestatic 242, 3) := by decide +kernel
theorem dX6_copy_4 : decode cX6_copy 4 = .ok (.ifCond .eq 10, 3) := by decide +kernel
theorem dX6_copy_7 : decode cX6_copy 7 = .ok (.iload_n 3, 1) := by decide +kernel
theorem dX6_copy_8 : decode cX6_copy 8 = .ok (.invokestatic 242, 3) := by decide +kernel
theorem dX6_copy_11 : decode cX6_copy 11 = .ok (.ifCond .ne 5, 3) := by decide +kernel
theorem dX6_copy_14 : decode cX6_copy 14 = .ok (.iconst (-1), 1) := by decide +kernel
theorem dX6_copy_15 : decode cX6_copy 15 = .ok (.ireturn, 1) := by decide +kernel
theorem dX6_copy_16 : decode cX6_copy 16 = .ok (.aload_n 0, 1) := by decide +kernel
theorem dX6_copy_17 : decode cX6_copy 17 = .ok (.getfield 32, 3) := by decide +kernel
theorem dX6_copy_20 : decode cX6_copy 20 = .ok (.iload_n 1, 1) := by decide +kernel
theorem dX6_copy_21 : decode cX6_copy 21 = .ok (.invokevirtual 252, 3) := by decide +kernel
theorem dX6_copy_24 : decode cX6_copy 24 = .ok (.ifCond .eq 14, 3) := by decide +kernel
theorem dX6_copy_27 : decode cX6_copy 27 = .ok (.aload_n 0, 1) := by decide +kernel
theorem dX6_copy_28 : decode cX6_copy 28 = .ok (.getfield 32, 3) := by decide +kernel
theorem dX6_copy_31 : decode cX6_copy 31 = .ok (.iload_n 3, 1) := by decide +kernel
theorem dX6_copy_32 : decode cX6_copy 32 = .ok (.invokevirtual 252, 3) := by decide +kernel
theorem dX6_copy_35 : decode cX6_copy 35 = .ok (.ifCond .ne 6, 3) := by decide +kernel
theorem dX6_copy_38 : decode cX6_copy 38 = .ok (.bipush (-11), 2) := by decide +kernel
theorem dX6_copy_40 : decode cX6_copy 40 = .ok (.ireturn, 1) := by decide +kernel
theorem dX6_copy_41 : decode cX6_copy 41 = .ok (.aload_n 0, 1) := by decide +kernel
theorem dX6_copy_42 : decode cX6_copy 42 = .ok (.getfield 32, 3) := by decide +kernel
theorem dX6_copy_45 : decode cX6_copy 45 = .ok (.getfield 258, 3) := by decide +kernel
theorem dX6_copy_48 : decode cX6_copy 48 = .ok (.iload_n 1, 1) := by decide +kernel
theorem dX6_copy_49 : decode cX6_copy 49 = .ok (.iaload, 1) := by decide +kernel
theorem dX6_copy_50 : decode cX6_copy 50 = .ok (.aload_n 0, 1) := by decide +kernel
theorem dX6_copy_51 : decode cX6_copy 51 = .ok (.getfield 32, 3) := by decide +kernel
theorem dX6_copy_54 : decode cX6_copy 54 = .ok (.getfield 258, 3) := by decide +kernel
theorem dX6_copy_57 : decode cX6_copy 57 = .ok (.iload_n 3, 1) := by decide +kernel
theorem dX6_copy_58 : decode cX6_copy 58 = .ok (.iaload, 1) := by decide +kernel
theorem dX6_copy_59 : decode cX6_copy 59 = .ok (.if_icmp .eq 6, 3) := by decide +kernel
theorem dX6_copy_62 : decode cX6_copy 62 = .ok (.bipush (-12), 2) := by decide +kernel
theorem dX6_copy_64 : decode cX6_copy 64 = .ok (.ireturn, 1) := by decide +kernel
theorem dX6_copy_65 : decode cX6_copy 65 = .ok (.aload_n 0, 1) := by decide +kernel
theorem dX6_copy_66 : decode cX6_copy 66 = .ok (.getfield 32, 3) := by decide +kernel
theorem dX6_copy_69 : decode cX6_copy 69 = .ok (.iload_n 1, 1) := by decide +kernel
theorem dX6_copy_70 : decode cX6_copy 70 = .ok (.iload_n 2, 1) := by decide +kernel
theorem dX6_copy_71 : decode cX6_copy 71 = .ok (.iload 5, 2) := by decide +kernel
theorem dX6_copy_73 : decode cX6_copy 73 = .ok (.invokevirtual 261, 3) := by decide +kernel
theorem dX6_copy_76 : decode cX6_copy 76 = .ok (.ifCond .eq 18, 3) := by decide +kernel
theorem dX6_copy_79 : decode cX6_copy 79 = .ok (.aload_n 0, 1) := by decide +kernel
theorem dX6_copy_80 : decode cX6_copy 80 = .ok (.getfield 32, 3) := by decide +kernel
theorem dX6_copy_83 : decode cX6_copy 83 = .ok (.iload_n 3, 1) := by decide +kernel
theorem dX6_copy_84 : decode cX6_copy 84 = .ok (.iload 4, 2) := by decide +kernel
theorem dX6_copy_86 : decode cX6_copy 86 = .ok (.iload 5, 2) := by decide +kernel
theorem dX6_copy_88 : decode cX6_copy 88 = .ok (.invokevirtual 261, 3) := by decide +kernel
theorem dX6_copy_91 : decode cX6_copy 91 = .ok (.ifCond .ne 6, 3) := by decide +kernel
theorem dX6_copy_94 : decode cX6_copy 94 = .ok (.bipush (-13), 2) := by decide +kernel
theorem dX6_copy_96 : decode cX6_copy 96 = .ok (.ireturn, 1) := by decide +kernel
theorem dX6_copy_97 : decode cX6_copy 97 = .ok (.aload_n 0, 1) := by decide +kernel
theorem dX6_copy_98 : decode cX6_copy 98 = .ok (.getfield 32, 3) := by decide +kernel
theorem dX6_copy_101 : decode cX6_copy 101 = .ok (.iload_n 1, 1) := by decide +kernel
theorem dX6_copy_102 : decode cX6_copy 102 = .ok (.iload_n 2, 1) := by decide +kernel
theorem dX6_copy_103 : decode cX6_copy 103 = .ok (.iload_n 3, 1) := by decide +kernel
theorem dX6_copy_104 : decode cX6_copy 104 = .ok (.iload 4, 2) := by decide +kernel
theorem dX6_copy_106 : decode cX6_copy 106 = .ok (.iload 5, 2) := by decide +kernel
theorem dX6_copy_108 : decode cX6_copy 108 = .ok (.invokevirtual 264, 3) := by decide +kernel
theorem dX6_copy_111 : decode cX6_copy 111 = .ok (.iload 5, 2) := by decide +kernel
theorem dX6_copy_113 : decode cX6_copy 113 = .ok (.ireturn, 1) := by decide +kernel
theorem dX6_takeToldYears_0 : decode cX6_takeToldYears 0 = .ok (.iconst 0, 1) := by decide +kernel
theorem dX6_takeToldYears_1 : decode cX6_takeToldYears 1 = .ok (.istore 4, 2) := by decide +kernel
theorem dX6_takeToldYears_3 : decode cX6_takeToldYears 3 = .ok (.iload 4, 2) := by decide +kernel
theorem dX6_takeToldYears_5 : decode cX6_takeToldYears 5 = .ok (.iload_n 3, 1) := by decide +kernel
theorem dX6_takeToldYears_6 : decode cX6_takeToldYears 6 = .ok (.if_icmp .ge 65, 3) := by decide +kernel
theorem dX6_takeToldYears_9 : decode cX6_takeToldYears 9 = .ok (.iload 4, 2) := by decide +kernel
theorem dX6_takeToldYears_11 : decode cX6_takeToldYears 11 = .ok (.aload_n 0, 1) := by decide +kernel
theorem dX6_takeToldYears_12 : decode cX6_takeToldYears 12 = .ok (.getfield 40, 3) := by decide +kernel
theorem dX6_takeToldYears_15 : decode cX6_takeToldYears 15 = .ok (.arraylength, 1) := by decide +kernel
theorem dX6_takeToldYears_16 : decode cX6_takeToldYears 16 = .ok (.if_icmp .ge 55, 3) := by decide +kernel
theorem dX6_takeToldYears_19 : decode cX6_takeToldYears 19 = .ok (.aload_n 0, 1) := by decide +kernel
theorem dX6_takeToldYears_20 : decode cX6_takeToldYears 20 = .ok (.getfield 32, 3) := by decide +kernel
theorem dX6_takeToldYears_23 : decode cX6_takeToldYears 23 = .ok (.iload_n 1, 1) := by decide +kernel
theorem dX6_takeToldYears_24 : decode cX6_takeToldYears 24 = .ok (.iload_n 2, 1) := by decide +kernel
theorem dX6_takeToldYears_25 : decode cX6_takeToldYears 25 = .ok (.iload 4, 2) := by decide +kernel
theorem dX6_takeToldYears_27 : decode cX6_takeToldYears 27 = .ok (.iadd, 1) := by decide +kernel
theorem dX6_takeToldYears_28 : decode cX6_takeToldYears 28 = .ok (.invokevirtual 221, 3) := by decide +kernel
theorem dX6_takeToldYears_31 : decode cX6_takeToldYears 31 = .ok (.lstore 5, 2) := by decide +kernel
theorem dX6_takeToldYears_33 : decode cX6_takeToldYears 33 = .ok (.lload 5, 2) := by decide +kernel
theorem dX6_takeToldYears_35 : decode cX6_takeToldYears 35 = .ok (.aload_n 0, 1) := by decide +kernel
theorem dX6_takeToldYears_36 : decode cX6_takeToldYears 36 = .ok (.getfield 10, 3) := by decide +kernel
theorem dX6_takeToldYears_39 : decode cX6_takeToldYears 39 = .ok (.invokevirtual 114, 3) := by decide +kernel
theorem dX6_takeToldYears_42 : decode cX6_takeToldYears 42 = .ok (.i2l, 1) := by decide +kernel
theorem dX6_takeToldYears_43 : decode cX6_takeToldYears 43 = .ok (.ldc2_w 225, 3) := by decide +kernel
theorem dX6_takeToldYears_46 : decode cX6_takeToldYears 46 = .ok (.lxor, 1) := by decide +kernel
theorem dX6_takeToldYears_47 : decode cX6_takeToldYears 47 = .ok (.land, 1) := by decide +kernel
theorem dX6_takeToldYears_48 : decode cX6_takeToldYears 48 = .ok (.lconst 0, 1) := by decide +kernel
theorem dX6_takeToldYears_49 : decode cX6_takeToldYears 49 = .ok (.lcmp, 1) := by decide +kernel
theorem dX6_takeToldYears_50 : decode cX6_takeToldYears 50 = .ok (.ifCond .eq 5, 3) := by decide +kernel
theorem dX6_takeToldYears_53 : decode cX6_takeToldYears 53 = .ok (.iconst 0, 1) := by decide +kernel
theorem dX6_takeToldYears_54 : decode cX6_takeToldYears 54 = .ok (.ireturn, 1) := by decide +kernel
theorem dX6_takeToldYears_55 : decode cX6_takeToldYears 55 = .ok (.aload_n 0, 1) := by decide +kernel
theorem dX6_takeToldYears_56 : decode cX6_takeToldYears 56 = .ok (.getfield 40, 3) := by decide +kernel
theorem dX6_takeToldYears_59 : decode cX6_takeToldYears 59 = .ok (.iload 4, 2) := by decide +kernel
theorem dX6_takeToldYears_61 : decode cX6_takeToldYears 61 = .ok (.lload 5, 2) := by decide +kernel
theorem dX6_takeToldYears_63 : decode cX6_takeToldYears 63 = .ok (.l2i, 1) := by decide +kernel
theorem dX6_takeToldYears_64 : decode cX6_takeToldYears 64 = .ok (.iastore, 1) := by decide +kernel
theorem dX6_takeToldYears_65 : decode cX6_takeToldYears 65 = .ok (.iinc 4 1, 3) := by decide +kernel
theorem dX6_takeToldYears_68 : decode cX6_takeToldYears 68 = .ok (.goto (-65), 3) := by decide +kernel
theorem dX6_takeToldYears_71 : decode cX6_takeToldYears 71 = .ok (.iconst 1, 1) := by decide +kernel
theorem dX6_takeToldYears_72 : decode cX6_takeToldYears 72 = .ok (.ireturn, 1) := by decide +kernel
theorem dX6_isDay_0 : decode cX6_isDay 0 = .ok (.iload_n 0, 1) := by decide +kernel
theorem dX6_isDay_1 : decode cX6_isDay 1 = .ok (.ifCond .lt 13, 3) := by decide +kernel
theorem dX6_isDay_4 : decode cX6_isDay 4 = .ok (.iload_n 0, 1) := by decide +kernel
theorem dX6_isDay_5 : decode cX6_isDay 5 = .ok (.bipush 11, 2) := by decide +kernel
theorem dX6_isDay_7 : decode cX6_isDay 7 = .ok (.if_icmp .gt 7, 3) := by decide +kernel
theorem dX6_isDay_10 : decode cX6_isDay 10 = .ok (.iconst 1, 1) := by decide +kernel
theorem dX6_isDay_11 : decode cX6_isDay 11 = .ok (.goto 4, 3) := by decide +kernel
theorem dX6_isDay_14 : decode cX6_isDay 14 = .ok (.iconst 0, 1) := by decide +kernel
theorem dX6_isDay_15 : decode cX6_isDay 15 = .ok (.ireturn, 1) := by decide +kernel
theorem dX6_isEverPerson_0 : decode cX6_isEverPerson 0 = .ok (.iload_n 0, 1) := by decide +kernel
theorem dX6_isEverPerson_1 : decode cX6_isEverPerson 1 = .ok (.ifCond .lt 12, 3) := by decide +kernel
theorem dX6_isEverPerson_4 : decode cX6_isEverPerson 4 = .ok (.iload_n 0, 1) := by decide +kernel
theorem dX6_isEverPerson_5 : decode cX6_isEverPerson 5 = .ok (.iconst 4, 1) := by decide +kernel
theorem dX6_isEverPerson_6 : decode cX6_isEverPerson 6 = .ok (.if_icmp .ge 7, 3) := by decide +kernel
theorem dX6_isEverPerson_9 : decode cX6_isEverPerson 9 = .ok (.iconst 1, 1) := by decide +kernel
theorem dX6_isEverPerson_10 : decode cX6_isEverPerson 10 = .ok (.goto 4, 3) := by decide +kernel
theorem dX6_isEverPerson_13 : decode cX6_isEverPerson 13 = .ok (.iconst 0, 1) := by decide +kernel
theorem dX6_isEverPerson_14 : decode cX6_isEverPerson 14 = .ok (.ireturn, 1) := by decide +kernel
theorem dX6_isWalkLength_0 : decode cX6_isWalkLength 0 = .ok (.iload_n 0, 1) := by decide +kernel
theorem dX6_isWalkLength_1 : decode cX6_isWalkLength 1 = .ok (.ifCond .lt 12, 3) := by decide +kernel
theorem dX6_isWalkLength_4 : decode cX6_isWalkLength 4 = .ok (.iload_n 0, 1) := by decide +kernel
theorem dX6_isWalkLength_5 : decode cX6_isWalkLength 5 = .ok (.iconst 4, 1) := by decide +kernel
theorem dX6_isWalkLength_6 : decode cX6_isWalkLength 6 = .ok (.if_icmp .gt 7, 3) := by decide +kernel
theorem dX6_isWalkLength_9 : decode cX6_isWalkLength 9 = .ok (.iconst 1, 1) := by decide +kernel
theorem dX6_isWalkLength_10 : decode cX6_isWalkLength 10 = .ok (.goto 4, 3) := by decide +kernel
theorem dX6_isWalkLength_13 : decode cX6_isWalkLength 13 = .ok (.iconst 0, 1) := by decide +kernel
theorem dX6_isWalkLength_14 : decode cX6_isWalkLength 14 = .ok (.ireturn, 1) := by decide +kernel
theorem dX6_isChoice_0 : decode cX6_isChoice 0 = .ok (.iload_n 0, 1) := by decide +kernel
theorem dX6_isChoice_1 : decode cX6_isChoice 1 = .ok (.ifCond .eq 8, 3) := by decide +kernel
theorem dX6_isChoice_4 : decode cX6_isChoice 4 = .ok (.iload_n 0, 1) := by decide +kernel
theorem dX6_isChoice_5 : decode cX6_isChoice 5 = .ok (.iconst 1, 1) := by decide +kernel
theorem dX6_isChoice_6 : decode cX6_isChoice 6 = .ok (.if_icmp .ne 7, 3) := by decide +kernel
theorem dX6_isChoice_9 : decode cX6_isChoice 9 = .ok (.iconst 1, 1) := by decide +kernel
theorem dX6_isChoice_10 : decode cX6_isChoice 10 = .ok (.goto 4, 3) := by decide +kernel
theorem dX6_isChoice_13 : decode cX6_isChoice 13 = .ok (.iconst 0, 1) := by decide +kernel
theorem dX6_isChoice_14 : decode cX6_isChoice 14 = .ok (.ireturn, 1) := by decide +kernel
theorem dX6_isSheet_0 : decode cX6_isSheet 0 = .ok (.iload_n 0, 1) := by decide +kernel
theorem dX6_isSheet_1 : decode cX6_isSheet 1 = .ok (.ifCond .lt 12, 3) := by decide +kernel
theorem dX6_isSheet_4 : decode cX6_isSheet 4 = .ok (.iload_n 0, 1) := by decide +kernel
theorem dX6_isSheet_5 : decode cX6_isSheet 5 = .ok (.iconst 4, 1) := by decide +kernel
theorem dX6_isSheet_6 : decode cX6_isSheet 6 = .ok (.if_icmp .ge 7, 3) := by decide +kernel
theorem dX6_isSheet_9 : decode cX6_isSheet 9 = .ok (.iconst 1, 1) := by decide +kernel
theorem dX6_isSheet_10 : decode cX6_isSheet 10 = .ok (.goto 4, 3) := by decide +kernel
theorem dX6_isSheet_13 : decode cX6_isSheet 13 = .ok (.iconst 0, 1) := by decide +kernel
theorem dX6_isSheet_14 : decode cX6_isSheet 14 = .ok (.ireturn, 1) := by decide +kernel
theorem dX6_isLane_0 : decode cX6_isLane 0 = .ok (.iload_n 0, 1) := by decide +kernel
theorem dX6_isLane_1 : decode cX6_isLane 1 = .ok (.ifCond .lt 12, 3) := by decide +kernel
theorem dX6_isLane_4 : decode cX6_isLane 4 = .ok (.iload_n 0, 1) := by decide +kernel
theorem dX6_isLane_5 : decode cX6_isLane 5 = .ok (.iconst 4, 1) := by decide +kernel
theorem dX6_isLane_6 : decode cX6_isLane 6 = .ok (.if_icmp .ge 7, 3) := by decide +kernel
theorem dX6_isLane_9 : decode cX6_isLane 9 = .ok (.iconst 1, 1) := by decide +kernel
theorem dX6_isLane_10 : decode cX6_isLane 10 = .ok (.goto 4, 3) := by decide +kernel
theorem dX6_isLane_13 : decode cX6_isLane 13 = .ok (.iconst 0, 1) := by decide +kernel
theorem dX6_isLane_14 : decode cX6_isLane 14 = .ok (.ireturn, 1) := by decide +kernel
theorem dX6_isIn_0 : decode cX6_isIn 0 = .ok (.iload_n 0, 1) := by decide +kernel
theorem dX6_isIn_1 : decode cX6_isIn 1 = .ok (.iload_n 1, 1) := by decide +kernel
theorem dX6_isIn_2 : decode cX6_isIn 2 = .ok (.ishr, 1) := by decide +kernel
theorem dX6_isIn_3 : decode cX6_isIn 3 = .ok (.iconst 1, 1) := by decide +kernel
theorem dX6_isIn_4 : decode cX6_isIn 4 = .ok (.iand, 1) := by decide +kernel
theorem dX6_isIn_5 : decode cX6_isIn 5 = .ok (.ifCond .eq 7, 3) := by decide +kernel
theorem dX6_isIn_8 : decode cX6_isIn 8 = .ok (.iconst 1, 1) := by decide +kernel
theorem dX6_isIn_9 : decode cX6_isIn 9 = .ok (.goto 4, 3) := by decide +kernel
theorem dX6_isIn_12 : decode cX6_isIn 12 = .ok (.iconst 0, 1) := by decide +kernel
theorem dX6_isIn_13 : decode cX6_isIn 13 = .ok (.ireturn, 1) := by decide +kernel
theorem dX6_isOneOf_0 : decode cX6_isOneOf 0 = .ok (.lload_n 0, 1) := by decide +kernel
theorem dX6_isOneOf_1 : decode cX6_isOneOf 1 = .ok (.lconst 0, 1) := by decide +kernel
theorem dX6_isOneOf_2 : decode cX6_isOneOf 2 = .ok (.lcmp, 1) := by decide +kernel
theorem dX6_isOneOf_3 : decode cX6_isOneOf 3 = .ok (.ifCond .lt 24, 3) := by decide +kernel
theorem dX6_isOneOf_6 : decode cX6_isOneOf 6 = .ok (.lload_n 0, 1) := by decide +kernel
theorem dX6_isOneOf_7 : decode cX6_isOneOf 7 = .ok (.ldc2_w 268, 3) := by decide +kernel
theorem dX6_isOneOf_10 : decode cX6_isOneOf 10 = .ok (.lcmp, 1) := by decide +kernel
theorem dX6_isOneOf_11 : decode cX6_isOneOf 11 = .ok (.ifCond .ge 16, 3) := by decide +kernel
theorem dX6_isOneOf_14 : decode cX6_isOneOf 14 = .ok (.iload_n 2, 1) := by decide +kernel
theorem dX6_isOneOf_15 : decode cX6_isOneOf 15 = .ok (.lload_n 0, 1) := by decide +kernel
theorem dX6_isOneOf_16 : decode cX6_isOneOf 16 = .ok (.l2i, 1) := by decide +kernel
theorem dX6_isOneOf_17 : decode cX6_isOneOf 17 = .ok (.invokestatic 98, 3) := by decide +kernel
theorem dX6_isOneOf_20 : decode cX6_isOneOf 20 = .ok (.ifCond .eq 7, 3) := by decide +kernel
theorem dX6_isOneOf_23 : decode cX6_isOneOf 23 = .ok (.iconst 1, 1) := by decide +kernel
theorem dX6_isOneOf_24 : decode cX6_isOneOf 24 = .ok (.goto 4, 3) := by decide +kernel
theorem dX6_isOneOf_27 : decode cX6_isOneOf 27 = .ok (.iconst 0, 1) := by decide +kernel
theorem dX6_isOneOf_28 : decode cX6_isOneOf 28 = .ok (.ireturn, 1) := by decide +kernel
theorem dX6_isWithin_0 : decode cX6_isWithin 0 = .ok (.iload_n 0, 1) := by decide +kernel
theorem dX6_isWithin_1 : decode cX6_isWithin 1 = .ok (.iload_n 1, 1) := by decide +kernel
theorem dX6_isWithin_2 : decode cX6_isWithin 2 = .ok (.iconst (-1), 1) := by decide +kernel
theorem dX6_isWithin_3 : decode cX6_isWithin 3 = .ok (.ixor, 1) := by decide +kernel
theorem dX6_isWithin_4 : decode cX6_isWithin 4 = .ok (.iand, 1) := by decide +kernel
theorem dX6_isWithin_5 : decode cX6_isWithin 5 = .ok (.ifCond .ne 7, 3) := by decide +kernel
theorem dX6_isWithin_8 : decode cX6_isWithin 8 = .ok (.iconst 1, 1) := by decide +kernel
theorem dX6_isWithin_9 : decode cX6_isWithin 9 = .ok (.goto 4, 3) := by decide +kernel
theorem dX6_isWithin_12 : decode cX6_isWithin 12 = .ok (.iconst 0, 1) := by decide +kernel
theorem dX6_isWithin_13 : decode cX6_isWithin 13 = .ok (.ireturn, 1) := by decide +kernel
