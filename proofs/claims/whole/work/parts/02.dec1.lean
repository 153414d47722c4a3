theorem dX0_add_0 : decode cX0_add 0 = .ok (.aload_n 0, 1) := by decide +kernel
theorem dX0_add_1 : decode cX0_add 1 = .ok (.getfield 9, 3) := by decide +kernel
theorem dX0_add_4 : decode cX0_add 4 = .ok (.aload_n 0, 1) := by decide +kernel
theorem dX0_add_5 : decode cX0_add 5 = .ok (.getfield 15, 3) := by decide +kernel
theorem dX0_add_8 : decode cX0_add 8 = .ok (.iload_n 1, 1) := by decide +kernel
theorem dX0_add_9 : decode cX0_add 9 = .ok (.iastore, 1) := by decide +kernel
theorem dX0_add_10 : decode cX0_add 10 = .ok (.aload_n 0, 1) := by decide +kernel
theorem dX0_add_11 : decode cX0_add 11 = .ok (.dup, 1) := by decide +kernel
theorem dX0_add_12 : decode cX0_add 12 = .ok (.getfield 15, 3) := by decide +kernel
theorem dX0_add_15 : decode cX0_add 15 = .ok (.iconst 1, 1) := by decide +kernel
theorem dX0_add_16 : decode cX0_add 16 = .ok (.iadd, 1) := by decide +kernel
theorem dX0_add_17 : decode cX0_add 17 = .ok (.putfield 15, 3) := by decide +kernel
theorem dX0_add_20 : decode cX0_add 20 = .ok (.return_, 1) := by decide +kernel
theorem dX0_copyFrom_0 : decode cX0_copyFrom 0 = .ok (.aload_n 1, 1) := by decide +kernel
theorem dX0_copyFrom_1 : decode cX0_copyFrom 1 = .ok (.getfield 9, 3) := by decide +kernel
theorem dX0_copyFrom_4 : decode cX0_copyFrom 4 = .ok (.iconst 0, 1) := by decide +kernel
theorem dX0_copyFrom_5 : decode cX0_copyFrom 5 = .ok (.aload_n 0, 1) := by decide +kernel
theorem dX0_copyFrom_6 : decode cX0_copyFrom 6 = .ok (.getfield 9, 3) := by decide +kernel
theorem dX0_copyFrom_9 : decode cX0_copyFrom 9 = .ok (.iconst 0, 1) := by decide +kernel
theorem dX0_copyFrom_10 : decode cX0_copyFrom 10 = .ok (.bipush 7, 2) := by decide +kernel
theorem dX0_copyFrom_12 : decode cX0_copyFrom 12 = .ok (.invokestatic 19, 3) := by decide +kernel
theorem dX0_copyFrom_15 : decode cX0_copyFrom 15 = .ok (.aload_n 0, 1) := by decide +kernel
theorem dX0_copyFrom_16 : decode cX0_copyFrom 16 = .ok (.aload_n 1, 1) := by decide +kernel
theorem dX0_copyFrom_17 : decode cX0_copyFrom 17 = .ok (.getfield 15, 3) := by decide +kernel
theorem dX0_copyFrom_20 : decode cX0_copyFrom 20 = .ok (.putfield 15, 3) := by decide +kernel
theorem dX0_copyFrom_23 : decode cX0_copyFrom 23 = .ok (.return_, 1) := by decide +kernel
theorem dX0_init_0 : decode cX0_init 0 = .ok (.aload_n 0, 1) := by decide +kernel
theorem dX0_init_1 : decode cX0_init 1 = .ok (.invokespecial 3, 3) := by decide +kernel
theorem dX0_init_4 : decode cX0_init 4 = .ok (.aload_n 0, 1) := by decide +kernel
theorem dX0_init_5 : decode cX0_init 5 = .ok (.bipush 7, 2) := by decide +kernel
theorem dX0_init_7 : decode cX0_init 7 = .ok (.newarray .int, 2) := by decide +kernel
theorem dX0_init_9 : decode cX0_init 9 = .ok (.putfield 9, 3) := by decide +kernel
theorem dX0_init_12 : decode cX0_init 12 = .ok (.return_, 1) := by decide +kernel
theorem dX1_drawOf_0 : decode cX1_drawOf 0 = .ok (.aload_n 0, 1) := by decide +kernel
theorem dX1_drawOf_1 : decode cX1_drawOf 1 = .ok (.ldc2_w 13, 3) := by decide +kernel
theorem dX1_drawOf_4 : decode cX1_drawOf 4 = .ok (.aload_n 0, 1) := by decide +kernel
theorem dX1_drawOf_5 : decode cX1_drawOf 5 = .ok (.getfield 7, 3) := by decide +kernel
theorem dX1_drawOf_8 : decode cX1_drawOf 8 = .ok (.i2l, 1) := by decide +kernel
theorem dX1_drawOf_9 : decode cX1_drawOf 9 = .ok (.lmul, 1) := by decide +kernel
theorem dX1_drawOf_10 : decode cX1_drawOf 10 = .ok (.ldc2_w 15, 3) := by decide +kernel
theorem dX1_drawOf_13 : decode cX1_drawOf 13 = .ok (.ladd, 1) := by decide +kernel
theorem dX1_drawOf_14 : decode cX1_drawOf 14 = .ok (.ldc2_w 17, 3) := by decide +kernel
theorem dX1_drawOf_17 : decode cX1_drawOf 17 = .ok (.land, 1) := by decide +kernel
theorem dX1_drawOf_18 : decode cX1_drawOf 18 = .ok (.l2i, 1) := by decide +kernel
theorem dX1_drawOf_19 : decode cX1_drawOf 19 = .ok (.putfield 7, 3) := by decide +kernel
theorem dX1_drawOf_22 : decode cX1_drawOf 22 = .ok (.iload_n 1, 1) := by decide +kernel
theorem dX1_drawOf_23 : decode cX1_drawOf 23 = .ok (.iconst 1, 1) := by decide +kernel
theorem dX1_drawOf_24 : decode cX1_drawOf 24 = .ok (.if_icmp .ge 7, 3) := by decide +kernel
theorem dX1_drawOf_27 : decode cX1_drawOf 27 = .ok (.iconst 0, 1) := by decide +kernel
theorem dX1_drawOf_28 : decode cX1_drawOf 28 = .ok (.goto 12, 3) := by decide +kernel
theorem dX1_drawOf_31 : decode cX1_drawOf 31 = .ok (.aload_n 0, 1) := by decide +kernel
theorem dX1_drawOf_32 : decode cX1_drawOf 32 = .ok (.getfield 7, 3) := by decide +kernel
theorem dX1_drawOf_35 : decode cX1_drawOf 35 = .ok (.ldc 19, 2) := by decide +kernel
theorem dX1_drawOf_37 : decode cX1_drawOf 37 = .ok (.idiv, 1) := by decide +kernel
theorem dX1_drawOf_38 : decode cX1_drawOf 38 = .ok (.iload_n 1, 1) := by decide +kernel
theorem dX1_drawOf_39 : decode cX1_drawOf 39 = .ok (.irem, 1) := by decide +kernel
theorem dX1_drawOf_40 : decode cX1_drawOf 40 = .ok (.ireturn, 1) := by decide +kernel
theorem dX1_init_0 : decode cX1_init 0 = .ok (.aload_n 0, 1) := by decide +kernel
theorem dX1_init_1 : decode cX1_init 1 = .ok (.invokespecial 1, 3) := by decide +kernel
theorem dX1_init_4 : decode cX1_init 4 = .ok (.aload_n 0, 1) := by decide +kernel
theorem dX1_init_5 : decode cX1_init 5 = .ok (.iload_n 1, 1) := by decide +kernel
theorem dX1_init_6 : decode cX1_init 6 = .ok (.putfield 7, 3) := by decide +kernel
theorem dX1_init_9 : decode cX1_init 9 = .ok (.return_, 1) := by decide +kernel
theorem dX2_add_0 : decode cX2_add 0 = .ok (.aload_n 0, 1) := by decide +kernel
theorem dX2_add_1 : decode cX2_add 1 = .ok (.getfield 21, 3) := by decide +kernel
theorem dX2_add_4 : decode cX2_add 4 = .ok (.aload_n 0, 1) := by decide +kernel
theorem dX2_add_5 : decode cX2_add 5 = .ok (.getfield 38, 3) := by decide +kernel
theorem dX2_add_8 : decode cX2_add 8 = .ok (.iload_n 1, 1) := by decide +kernel
theorem dX2_add_9 : decode cX2_add 9 = .ok (.iastore, 1) := by decide +kernel
theorem dX2_add_10 : decode cX2_add 10 = .ok (.aload_n 0, 1) := by decide +kernel
theorem dX2_add_11 : decode cX2_add 11 = .ok (.dup, 1) := by decide +kernel
theorem dX2_add_12 : decode cX2_add 12 = .ok (.getfield 38, 3) := by decide +kernel
theorem dX2_add_15 : decode cX2_add 15 = .ok (.iconst 1, 1) := by decide +kernel
theorem dX2_add_16 : decode cX2_add 16 = .ok (.iadd, 1) := by decide +kernel
theorem dX2_add_17 : decode cX2_add 17 = .ok (.putfield 38, 3) := by decide +kernel
theorem dX2_add_20 : decode cX2_add 20 = .ok (.aload_n 0, 1) := by decide +kernel
theorem dX2_add_21 : decode cX2_add 21 = .ok (.getfield 38, 3) := by decide +kernel
theorem dX2_add_24 : decode cX2_add 24 = .ok (.iconst 1, 1) := by decide +kernel
theorem dX2_add_25 : decode cX2_add 25 = .ok (.isub, 1) := by decide +kernel
theorem dX2_add_26 : decode cX2_add 26 = .ok (.ireturn, 1) := by decide +kernel
theorem dX2_akin_0 : decode cX2_akin 0 = .ok (.aload_n 0, 1) := by decide +kernel
theorem dX2_akin_1 : decode cX2_akin 1 = .ok (.getfield 12, 3) := by decide +kernel
theorem dX2_akin_4 : decode cX2_akin 4 = .ok (.iload_n 1, 1) := by decide +kernel
theorem dX2_akin_5 : decode cX2_akin 5 = .ok (.iload_n 2, 1) := by decide +kernel
theorem dX2_akin_6 : decode cX2_akin 6 = .ok (.invokevirtual 45, 3) := by decide +kernel
theorem dX2_akin_9 : decode cX2_akin 9 = .ok (.ireturn, 1) := by decide +kernel
theorem dX2_areTwo_0 : decode cX2_areTwo 0 = .ok (.aload_n 0, 1) := by decide +kernel
theorem dX2_areTwo_1 : decode cX2_areTwo 1 = .ok (.iload_n 1, 1) := by decide +kernel
theorem dX2_areTwo_2 : decode cX2_areTwo 2 = .ok (.invokevirtual 41, 3) := by decide +kernel
theorem dX2_areTwo_5 : decode cX2_areTwo 5 = .ok (.ifCond .eq 20, 3) := by decide +kernel
theorem dX2_areTwo_8 : decode cX2_areTwo 8 = .ok (.aload_n 0, 1) := by decide +kernel
theorem dX2_areTwo_9 : decode cX2_areTwo 9 = .ok (.iload_n 2, 1) := by decide +kernel
theorem dX2_areTwo_10 : decode cX2_areTwo 10 = .ok (.invokevirtual 41, 3) := by decide +kernel
theorem dX2_areTwo_13 : decode cX2_areTwo 13 = .ok (.ifCond .eq 12, 3) := by decide +kernel
theorem dX2_areTwo_16 : decode cX2_areTwo 16 = .ok (.iload_n 1, 1) := by decide +kernel
theorem dX2_areTwo_17 : decode cX2_areTwo 17 = .ok (.iload_n 2, 1) := by decide +kernel
theorem dX2_areTwo_18 : decode cX2_areTwo 18 = .ok (.if_icmp .eq 7, 3) := by decide +kernel
theorem dX2_areTwo_21 : decode cX2_areTwo 21 = .ok (.iconst 1, 1) := by decide +kernel
theorem dX2_areTwo_22 : decode cX2_areTwo 22 = .ok (.goto 4, 3) := by decide +kernel
theorem dX2_areTwo_25 : decode cX2_areTwo 25 = .ok (.iconst 0, 1) := by decide +kernel
theorem dX2_areTwo_26 : decode cX2_areTwo 26 = .ok (.ireturn, 1) := by decide +kernel
theorem dX2_begin_0 : decode cX2_begin 0 = .ok (.aload_n 0, 1) := by decide +kernel
theorem dX2_begin_1 : decode cX2_begin 1 = .ok (.getfield 12, 3) := by decide +kernel
theorem dX2_begin_4 : decode cX2_begin 4 = .ok (.aload_n 1, 1) := by decide +kernel
theorem dX2_begin_5 : decode cX2_begin 5 = .ok (.getfield 25, 3) := by decide +kernel
theorem dX2_begin_8 : decode cX2_begin 8 = .ok (.invokevirtual 28, 3) := by decide +kernel
theorem dX2_begin_11 : decode cX2_begin 11 = .ok (.aload_n 0, 1) := by decide +kernel
theorem dX2_begin_12 : decode cX2_begin 12 = .ok (.getfield 18, 3) := by decide +kernel
theorem dX2_begin_15 : decode cX2_begin 15 = .ok (.aload_n 1, 1) := by decide +kernel
theorem dX2_begin_16 : decode cX2_begin 16 = .ok (.getfield 32, 3) := by decide +kernel
theorem dX2_begin_19 : decode cX2_begin 19 = .ok (.invokevirtual 28, 3) := by decide +kernel
theorem dX2_begin_22 : decode cX2_begin 22 = .ok (.aload_n 0, 1) := by decide +kernel
theorem dX2_begin_23 : decode cX2_begin 23 = .ok (.aload_n 1, 1) := by decide +kernel
theorem dX2_begin_24 : decode cX2_begin 24 = .ok (.getfield 33, 3) := by decide +kernel
theorem dX2_begin_27 : decode cX2_begin 27 = .ok (.putfield 37, 3) := by decide +kernel
theorem dX2_begin_30 : decode cX2_begin 30 = .ok (.aload_n 0, 1) := by decide +kernel
theorem dX2_begin_31 : decode cX2_begin 31 = .ok (.iconst 0, 1) := by decide +kernel
theorem dX2_begin_32 : decode cX2_begin 32 = .ok (.putfield 38, 3) := by decide +kernel
theorem dX2_begin_35 : decode cX2_begin 35 = .ok (.return_, 1) := by decide +kernel
theorem dX2_has_0 : decode cX2_has 0 = .ok (.iload_n 1, 1) := by decide +kernel
theorem dX2_has_1 : decode cX2_has 1 = .ok (.ifCond .lt 15, 3) := by decide +kernel
theorem dX2_has_4 : decode cX2_has 4 = .ok (.iload_n 1, 1) := by decide +kernel
theorem dX2_has_5 : decode cX2_has 5 = .ok (.aload_n 0, 1) := by decide +kernel
theorem dX2_has_6 : decode cX2_has 6 = .ok (.getfield 38, 3) := by decide +kernel
theorem dX2_has_9 : decode cX2_has 9 = .ok (.if_icmp .ge 7, 3) := by decide +kernel
theorem dX2_has_12 : decode cX2_has 12 = .ok (.iconst 1, 1) := by decide +kernel
theorem dX2_has_13 : decode cX2_has 13 = .ok (.goto 4, 3) := by decide +kernel
theorem dX2_has_16 : decode cX2_has 16 = .ok (.iconst 0, 1) := by decide +kernel
theorem dX2_has_17 : decode cX2_has 17 = .ok (.ireturn, 1) := by decide +kernel
theorem dX2_init_0 : decode cX2_init 0 = .ok (.aload_n 0, 1) := by decide +kernel
theorem dX2_init_1 : decode cX2_init 1 = .ok (.invokespecial 3, 3) := by decide +kernel
theorem dX2_init_4 : decode cX2_init 4 = .ok (.aload_n 0, 1) := by decide +kernel
theorem dX2_init_5 : decode cX2_init 5 = .ok (.new 9, 3) := by decide +kernel
theorem dX2_init_8 : decode cX2_init 8 = .ok (.dup, 1) := by decide +kernel
theorem dX2_init_9 : decode cX2_init 9 = .ok (.invokespecial 11, 3) := by decide +kernel
theorem dX2_init_12 : decode cX2_init 12 = .ok (.putfield 12, 3) := by decide +kernel
theorem dX2_init_15 : decode cX2_init 15 = .ok (.aload_n 0, 1) := by decide +kernel
theorem dX2_init_16 : decode cX2_init 16 = .ok (.new 9, 3) := by decide +kernel
theorem dX2_init_19 : decode cX2_init 19 = .ok (.dup, 1) := by decide +kernel
theorem dX2_init_20 : decode cX2_init 20 = .ok (.invokespecial 11, 3) := by decide +kernel
theorem dX2_init_23 : decode cX2_init 23 = .ok (.putfield 18, 3) := by decide +kernel
theorem dX2_init_26 : decode cX2_init 26 = .ok (.aload_n 0, 1) := by decide +kernel
theorem dX2_init_27 : decode cX2_init 27 = .ok (.bipush 6, 2) := by decide +kernel
theorem dX2_init_29 : decode cX2_init 29 = .ok (.newarray .int, 2) := by decide +kernel
theorem dX2_init_31 : decode cX2_init 31 = .ok (.putfield 21, 3) := by decide +kernel
theorem dX2_init_34 : decode cX2_init 34 = .ok (.return_, 1) := by decide +kernel
theorem dX2_isA_0 : decode cX2_isA 0 = .ok (.aload_n 0, 1) := by decide +kernel
theorem dX2_isA_1 : decode cX2_isA 1 = .ok (.getfield 21, 3) := by decide +kernel
theorem dX2_isA_4 : decode cX2_isA 4 = .ok (.iload_n 1, 1) := by decide +kernel
theorem dX2_isA_5 : decode cX2_isA 5 = .ok (.iaload, 1) := by decide +kernel
theorem dX2_isA_6 : decode cX2_isA 6 = .ok (.istore_n 3, 1) := by decide +kernel
theorem dX2_isA_7 : decode cX2_isA 7 = .ok (.iload_n 2, 1) := by decide +kernel
theorem dX2_isA_8 : decode cX2_isA 8 = .ok (.ifCond .eq 18, 3) := by decide +kernel
theorem dX2_isA_11 : decode cX2_isA 11 = .ok (.iload_n 2, 1) := by decide +kernel
theorem dX2_isA_12 : decode cX2_isA 12 = .ok (.iload_n 3, 1) := by decide +kernel
theorem dX2_isA_13 : decode cX2_isA 13 = .ok (.if_icmp .eq 13, 3) := by decide +kernel
theorem dX2_isA_16 : decode cX2_isA 16 = .ok (.iload_n 2, 1) := by decide +kernel
theorem dX2_isA_17 : decode cX2_isA 17 = .ok (.iconst 3, 1) := by decide +kernel
theorem dX2_isA_18 : decode cX2_isA 18 = .ok (.if_icmp .ne 12, 3) := by decide +kernel
theorem dX2_isA_21 : decode cX2_isA 21 = .ok (.iload_n 3, 1) := by decide +kernel
theorem dX2_isA_22 : decode cX2_isA 22 = .ok (.iconst 4, 1) := by decide +kernel
theorem dX2_isA_23 : decode cX2_isA 23 = .ok (.if_icmp .ne 7, 3) := by decide +kernel
theorem dX2_isA_26 : decode cX2_isA 26 = .ok (.iconst 1, 1) := by decide +kernel
theorem dX2_isA_27 : decode cX2_isA 27 = .ok (.goto 4, 3) := by decide +kernel
theorem dX2_isA_30 : decode cX2_isA 30 = .ok (.iconst 0, 1) := by decide +kernel
theorem dX2_isA_31 : decode cX2_isA 31 = .ok (.ireturn, 1) := by decide +kernel
theorem dX2_know_0 : decode cX2_know 0 = .ok (.aload_n 0, 1) := by decide +kernel
theorem dX2_know_1 : decode cX2_know 1 = .ok (.getfield 12, 3) := by decide +kernel
theorem dX2_know_4 : decode cX2_know 4 = .ok (.iload_n 1, 1) := by decide +kernel
theorem dX2_know_5 : decode cX2_know 5 = .ok (.iload_n 2, 1) := by decide +kernel
theorem dX2_know_6 : decode cX2_know 6 = .ok (.invokevirtual 45, 3) := by decide +kernel
theorem dX2_know_9 : decode cX2_know 9 = .ok (.ifCond .ne 33, 3) := by decide +kernel
theorem dX2_know_12 : decode cX2_know 12 = .ok (.aload_n 0, 1) := by decide +kernel
theorem dX2_know_13 : decode cX2_know 13 = .ok (.getfield 18, 3) := by decide +kernel
theorem dX2_know_16 : decode cX2_know 16 = .ok (.iload_n 1, 1) := by decide +kernel
theorem dX2_know_17 : decode cX2_know 17 = .ok (.iload_n 2, 1) := by decide +kernel
theorem dX2_know_18 : decode cX2_know 18 = .ok (.invokevirtual 45, 3) := by decide +kernel
theorem dX2_know_21 : decode cX2_know 21 = .ok (.ifCond .ne 21, 3) := by decide +kernel
theorem dX2_know_24 : decode cX2_know 24 = .ok (.aload_n 0, 1) := by decide +kernel
theorem dX2_know_25 : decode cX2_know 25 = .ok (.iload_n 1, 1) := by decide +kernel
theorem dX2_know_26 : decode cX2_know 26 = .ok (.iconst 3, 1) := by decide +kernel
theorem dX2_know_27 : decode cX2_know 27 = .ok (.invokevirtual 48, 3) := by decide +kernel
theorem dX2_know_30 : decode cX2_know 30 = .ok (.ifCond .ne 12, 3) := by decide +kernel
theorem dX2_know_33 : decode cX2_know 33 = .ok (.aload_n 0, 1) := by decide +kernel
theorem dX2_know_34 : decode cX2_know 34 = .ok (.iload_n 2, 1) := by decide +kernel
theorem dX2_know_35 : decode cX2_know 35 = .ok (.iconst 3, 1) := by decide +kernel
theorem dX2_know_36 : decode cX2_know 36 = .ok (.invokevirtual 48, 3) := by decide +kernel
theorem dX2_know_39 : decode cX2_know 39 = .ok (.ifCond .eq 7, 3) := by decide +kernel
theorem dX2_know_42 : decode cX2_know 42 = .ok (.iconst 1, 1) := by decide +kernel
theorem dX2_know_43 : decode cX2_know 43 = .ok (.goto 4, 3) := by decide +kernel
theorem dX2_know_46 : decode cX2_know 46 = .ok (.iconst 0, 1) := by decide +kernel
theorem dX2_know_47 : decode cX2_know 47 = .ok (.ireturn, 1) := by decide +kernel
theorem dX2_leastWorthBy_0 : decode cX2_leastWorthBy 0 = .ok (.aload_n 0, 1) := by decide +kernel
theorem dX2_leastWorthBy_1 : decode cX2_leastWorthBy 1 = .ok (.iload_n 1, 1) := by decide +kernel
theorem dX2_leastWorthBy_2 : decode cX2_leastWorthBy 2 = .ok (.iconst 2, 1) := by decide +kernel
theorem dX2_leastWorthBy_3 : decode cX2_leastWorthBy 3 = .ok (.invokevirtual 48, 3) := by decide +kernel
theorem dX2_leastWorthBy_6 : decode cX2_leastWorthBy 6 = .ok (.ifCond .eq 9, 3) := by decide +kernel
theorem dX2_leastWorthBy_9 : decode cX2_leastWorthBy 9 = .ok (.iload_n 2, 1) := by decide +kernel
theorem dX2_leastWorthBy_10 : decode cX2_leastWorthBy 10 = .ok (.iconst 1, 1) := by decide +kernel
theorem dX2_leastWorthBy_11 : decode cX2_leastWorthBy 11 = .ok (.isub, 1) := by decide +kernel
theorem dX2_leastWorthBy_12 : decode cX2_leastWorthBy 12 = .ok (.goto 4, 3) := by decide +kernel
theorem dX2_leastWorthBy_15 : decode cX2_leastWorthBy 15 = .ok (.iload_n 2, 1) := by decide +kernel
theorem dX2_leastWorthBy_16 : decode cX2_leastWorthBy 16 = .ok (.ireturn, 1) := by decide +kernel
theorem dX2_termOf_0 : decode cX2_termOf 0 = .ok (.aload_n 0, 1) := by decide +kernel
theorem dX2_termOf_1 : decode cX2_termOf 1 = .ok (.iload_n 1, 1) := by decide +kernel
theorem dX2_termOf_2 : decode cX2_termOf 2 = .ok (.iconst 4, 1) := by decide +kernel
theorem dX2_termOf_3 : decode cX2_termOf 3 = .ok (.invokevirtual 48, 3) := by decide +kernel
theorem dX2_termOf_6 : decode cX2_termOf 6 = .ok (.ifCond .eq 12, 3) := by decide +kernel
theorem dX2_termOf_9 : decode cX2_termOf 9 = .ok (.iconst 2, 1) := by decide +kernel
theorem dX2_termOf_10 : decode cX2_termOf 10 = .ok (.aload_n 0, 1) := by decide +kernel
theorem dX2_termOf_11 : decode cX2_termOf 11 = .ok (.getfield 37, 3) := by decide +kernel
theorem dX2_termOf_14 : decode cX2_termOf 14 = .ok (.imul, 1) := by decide +kernel
theorem dX2_termOf_15 : decode cX2_termOf 15 = .ok (.goto 7, 3) := by decide +kernel
theorem dX2_termOf_18 : decode cX2_termOf 18 = .ok (.aload_n 0, 1) := by decide +kernel
theorem dX2_termOf_19 : decode cX2_termOf 19 = .ok (.getfield 37, 3) := by decide +kernel
theorem dX2_termOf_22 : decode cX2_termOf 22 = .ok (.ireturn, 1) := by decide +kernel
theorem dX3_goTo_0 : decode cX3_goTo 0 = .ok (.aload_n 0, 1) := by decide +kernel
theorem dX3_goTo_1 : decode cX3_goTo 1 = .ok (.iload_n 1, 1) := by decide +kernel
theorem dX3_goTo_2 : decode cX3_goTo 2 = .ok (.putfield 28, 3) := by decide +kernel
theorem dX3_goTo_5 : decode cX3_goTo 5 = .ok (.iconst 1, 1) := by decide +kernel
theorem dX3_goTo_6 : decode cX3_goTo 6 = .ok (.ireturn, 1) := by decide +kernel
theorem dX3_init_0 : decode cX3_init 0 = .ok (.aload_n 0, 1) := by decide +kernel
theorem dX3_init_1 : decode cX3_init 1 = .ok (.invokespecial 3, 3) := by decide +kernel
theorem dX3_init_4 : decode cX3_init 4 = .ok (.aload_n 0, 1) := by decide +kernel
theorem dX3_init_5 : decode cX3_init 5 = .ok (.new 9, 3) := by decide +kernel
theorem dX3_init_8 : decode cX3_init 8 = .ok (.dup, 1) := by decide +kernel
theorem dX3_init_9 : decode cX3_init 9 = .ok (.invokespecial 11, 3) := by decide +kernel
theorem dX3_init_12 : decode cX3_init 12 = .ok (.putfield 12, 3) := by decide +kernel
theorem dX3_init_15 : decode cX3_init 15 = .ok (.aload_n 0, 1) := by decide +kernel
theorem dX3_init_16 : decode cX3_init 16 = .ok (.new 9, 3) := by decide +kernel
theorem dX3_init_19 : decode cX3_init 19 = .ok (.dup, 1) := by decide +kernel
theorem dX3_init_20 : decode cX3_init 20 = .ok (.invokespecial 11, 3) := by decide +kernel
theorem dX3_init_23 : decode cX3_init 23 = .ok (.putfield 18, 3) := by decide +kernel
theorem dX3_init_26 : decode cX3_init 26 = .ok (.return_, 1) := by decide +kernel
theorem dX3_isOfPeople_0 : decode cX3_isOfPeople 0 = .ok (.iload_n 0, 1) := by decide +kernel
theorem dX3_isOfPeople_1 : decode cX3_isOfPeople 1 = .ok (.bipush 48, 2) := by decide +kernel
theorem dX3_isOfPeople_3 : decode cX3_isOfPeople 3 = .ok (.if_icmp .lt 13, 3) := by decide +kernel
theorem dX3_isOfPeople_6 : decode cX3_isOfPeople 6 = .ok (.iload_n 0, 1) := by decide +kernel
theorem dX3_isOfPeople_7 : decode cX3_isOfPeople 7 = .ok (.bipush 54, 2) := by decide +kernel
theorem dX3_isOfPeople_9 : decode cX3_isOfPeople 9 = .ok (.if_icmp .ge 7, 3) := by decide +kernel
theorem dX3_isOfPeople_12 : decode cX3_isOfPeople 12 = .ok (.iconst 1, 1) := by decide +kernel
theorem dX3_isOfPeople_13 : decode cX3_isOfPeople 13 = .ok (.goto 4, 3) := by decide +kernel
theorem dX3_isOfPeople_16 : decode cX3_isOfPeople 16 = .ok (.iconst 0, 1) := by decide +kernel
theorem dX3_isOfPeople_17 : decode cX3_isOfPeople 17 = .ok (.ireturn, 1) := by decide +kernel
theorem dX3_isWhole_0 : decode cX3_isWhole 0 = .ok (.aload_n 0, 1) := by decide +kernel
theorem dX3_isWhole_1 : decode cX3_isWhole 1 = .ok (.getfield 28, 3) := by decide +kernel
theorem dX3_isWhole_4 : decode cX3_isWhole 4 = .ok (.bipush 6, 2) := by decide +kernel
theorem dX3_isWhole_6 : decode cX3_isWhole 6 = .ok (.if_icmp .ne 7, 3) := by decide +kernel
theorem dX3_isWhole_9 : decode cX3_isWhole 9 = .ok (.iconst 1, 1) := by decide +kernel
theorem dX3_isWhole_10 : decode cX3_isWhole 10 = .ok (.goto 4, 3) := by decide +kernel
theorem dX3_isWhole_13 : decode cX3_isWhole 13 = .ok (.iconst 0, 1) := by decide +kernel
theorem dX3_isWhole_14 : decode cX3_isWhole 14 = .ok (.ireturn, 1) := by decide +kernel
theorem dX3_pairsOfPart_0 : decode cX3_pairsOfPart 0 = .ok (.aload_n 0, 1) := by decide +kernel
theorem dX3_pairsOfPart_1 : decode cX3_pairsOfPart 1 = .ok (.getfield 31, 3) := by decide +kernel
theorem dX3_pairsOfPart_4 : decode cX3_pairsOfPart 4 = .ok (.ifCond .eq 10, 3) := by decide +kernel
theorem dX3_pairsOfPart_7 : decode cX3_pairsOfPart 7 = .ok (.aload_n 0, 1) := by decide +kernel
theorem dX3_pairsOfPart_8 : decode cX3_pairsOfPart 8 = .ok (.getfield 12, 3) := by decide +kernel
theorem dX3_pairsOfPart_11 : decode cX3_pairsOfPart 11 = .ok (.goto 7, 3) := by decide +kernel
theorem dX3_pairsOfPart_14 : decode cX3_pairsOfPart 14 = .ok (.aload_n 0, 1) := by decide +kernel
theorem dX3_pairsOfPart_15 : decode cX3_pairsOfPart 15 = .ok (.getfield 18, 3) := by decide +kernel
theorem dX3_pairsOfPart_18 : decode cX3_pairsOfPart 18 = .ok (.areturn, 1) := by decide +kernel
theorem dX3_read_0 : decode cX3_read 0 = .ok (.aload_n 0, 1) := by decide +kernel
theorem dX3_read_1 : decode cX3_read 1 = .ok (.getfield 12, 3) := by decide +kernel
theorem dX3_read_4 : decode cX3_read 4 = .ok (.invokevirtual 21, 3) := by decide +kernel
theorem dX3_read_7 : decode cX3_read 7 = .ok (.aload_n 0, 1) := by decide +kernel
theorem dX3_read_8 : decode cX3_read 8 = .ok (.getfield 18, 3) := by decide +kernel
theorem dX3_read_11 : decode cX3_read 11 = .ok (.invokevirtual 21, 3) := by decide +kernel
theorem dX3_read_14 : decode cX3_read 14 = .ok (.aload_n 0, 1) := by decide +kernel
theorem dX3_read_15 : decode cX3_read 15 = .ok (.iconst 0, 1) := by decide +kernel
theorem dX3_read_16 : decode cX3_read 16 = .ok (.putfield 24, 3) := by decide +kernel
theorem dX3_read_19 : decode cX3_read 19 = .ok (.aload_n 0, 1) := by decide +kernel
theorem dX3_read_20 : decode cX3_read 20 = .ok (.iconst 0, 1) := by decide +kernel
theorem dX3_read_21 : decode cX3_read 21 = .ok (.putfield 28, 3) := by decide +kernel
theorem dX3_read_24 : decode cX3_read 24 = .ok (.aload_n 0, 1) := by decide +kernel
theorem dX3_read_25 : decode cX3_read 25 = .ok (.iconst 1, 1) := by decide +kernel
theorem dX3_read_26 : decode cX3_read 26 = .ok (.putfield 31, 3) := by decide +kernel
theorem dX3_read_29 : decode cX3_read 29 = .ok (.iconst 0, 1) := by decide +kernel
theorem dX3_read_30 : decode cX3_read 30 = .ok (.istore_n 2, 1) := by decide +kernel
theorem dX3_read_31 : decode cX3_read 31 = .ok (.iload_n 2, 1) := by decide +kernel
theorem dX3_read_32 : decode cX3_read 32 = .ok (.aload_n 1, 1) := by decide +kernel
theorem dX3_read_33 : decode cX3_read 33 = .ok (.getfield 35, 3) := by decide +kernel
theorem dX3_read_36 : decode cX3_read 36 = .ok (.if_icmp .ge 24, 3) := by decide +kernel
theorem dX3_read_39 : decode cX3_read 39 = .ok (.aload_n 0, 1) := by decide +kernel
theorem dX3_read_40 : decode cX3_read 40 = .ok (.aload_n 1, 1) := by decide +kernel
theorem dX3_read_41 : decode cX3_read 41 = .ok (.getfield 40, 3) := by decide +kernel
theorem dX3_read_44 : decode cX3_read 44 = .ok (.iload_n 2, 1) := by decide +kernel
theorem dX3_read_45 : decode cX3_read 45 = .ok (.iaload, 1) := by decide +kernel
theorem dX3_read_46 : decode cX3_read 46 = .ok (.invokevirtual 44, 3) := by decide +kernel
theorem dX3_read_49 : decode cX3_read 49 = .ok (.ifCond .ne 5, 3) := by decide +kernel
theorem dX3_read_52 : decode cX3_read 52 = .ok (.iload_n 2, 1) := by decide +kernel
theorem dX3_read_53 : decode cX3_read 53 = .ok (.ireturn, 1) := by decide +kernel
theorem dX3_read_54 : decode cX3_read 54 = .ok (.iinc 2 1, 3) := by decide +kernel
theorem dX3_read_57 : decode cX3_read 57 = .ok (.goto (-26), 3) := by decide +kernel
theorem dX3_read_60 : decode cX3_read 60 = .ok (.aload_n 1, 1) := by decide +kernel
theorem dX3_read_61 : decode cX3_read 61 = .ok (.getfield 35, 3) := by decide +kernel
theorem dX3_read_64 : decode cX3_read 64 = .ok (.ireturn, 1) := by decide +kernel
theorem dX3_takes_0 : decode cX3_takes 0 = .ok (.aload_n 0, 1) := by decide +kernel
theorem dX3_takes_1 : decode cX3_takes 1 = .ok (.getfield 28, 3) := by decide +kernel
theorem dX3_takes_4 : decode cX3_takes 4 = .ok (.tableswitch 103 0 5 #[40, 60, 66, 72, 91, 97], 40) := by decide +kernel
theorem dX3_takes_44 : decode cX3_takes 44 = .ok (.iload_n 1, 1) := by decide +kernel
theorem dX3_takes_45 : decode cX3_takes 45 = .ok (.bipush 45, 2) := by decide +kernel
theorem dX3_takes_47 : decode cX3_takes 47 = .ok (.if_icmp .ne 11, 3) := by decide +kernel
theorem dX3_takes_50 : decode cX3_takes 50 = .ok (.aload_n 0, 1) := by decide +kernel
theorem dX3_takes_51 : decode cX3_takes 51 = .ok (.iconst 4, 1) := by decide +kernel
theorem dX3_takes_52 : decode cX3_takes 52 = .ok (.invokevirtual 48, 3) := by decide +kernel
theorem dX3_takes_55 : decode cX3_takes 55 = .ok (.goto 8, 3) := by decide +kernel
theorem dX3_takes_58 : decode cX3_takes 58 = .ok (.aload_n 0, 1) := by decide +kernel
theorem dX3_takes_59 : decode cX3_takes 59 = .ok (.iload_n 1, 1) := by decide +kernel
theorem dX3_takes_60 : decode cX3_takes 60 = .ok (.invokevirtual 51, 3) := by decide +kernel
theorem dX3_takes_63 : decode cX3_takes 63 = .ok (.ireturn, 1) := by decide +kernel
theorem dX3_takes_64 : decode cX3_takes 64 = .ok (.aload_n 0, 1) := by decide +kernel
theorem dX3_takes_65 : decode cX3_takes 65 = .ok (.iload_n 1, 1) := by decide +kernel
theorem dX3_takes_66 : decode cX3_takes 66 = .ok (.invokevirtual 51, 3) := by decide +kernel
theorem dX3_takes_69 : decode cX3_takes 69 = .ok (.ireturn, 1) := by decide +kernel
theorem dX3_takes_70 : decode cX3_takes 70 = .ok (.aload_n 0, 1) := by decide +kernel
theorem dX3_takes_71 : decode cX3_takes 71 = .ok (.iload_n 1, 1) := by decide +kernel
theorem dX3_takes_72 : decode cX3_takes 72 = .ok (.invokevirtual 54, 3) := by decide +kernel
theorem dX3_takes_75 : decode cX3_takes 75 = .ok (.ireturn, 1) := by decide +kernel
theorem dX3_takes_76 : decode cX3_takes 76 = .ok (.iload_n 1, 1) := by decide +kernel
theorem dX3_takes_77 : decode cX3_takes 77 = .ok (.bipush 44, 2) := by decide +kernel
theorem dX3_takes_79 : decode cX3_takes 79 = .ok (.if_icmp .ne 10, 3) := by decide +kernel
theorem dX3_takes_82 : decode cX3_takes 82 = .ok (.aload_n 0, 1) := by decide +kernel
theorem dX3_takes_83 : decode cX3_takes 83 = .ok (.invokevirtual 57, 3) := by decide +kernel
theorem dX3_takes_86 : decode cX3_takes 86 = .ok (.goto 8, 3) := by decide +kernel
theorem dX3_takes_89 : decode cX3_takes 89 = .ok (.aload_n 0, 1) := by decide +kernel
theorem dX3_takes_90 : decode cX3_takes 90 = .ok (.iload_n 1, 1) := by decide +kernel
theorem dX3_takes_91 : decode cX3_takes 91 = .ok (.invokevirtual 61, 3) := by decide +kernel
theorem dX3_takes_94 : decode cX3_takes 94 = .ok (.ireturn, 1) := by decide +kernel
theorem dX3_takes_95 : decode cX3_takes 95 = .ok (.aload_n 0, 1) := by decide +kernel
theorem dX3_takes_96 : decode cX3_takes 96 = .ok (.iload_n 1, 1) := by decide +kernel
theorem dX3_takes_97 : decode cX3_takes 97 = .ok (.invokevirtual 61, 3) := by decide +kernel
theorem dX3_takes_100 : decode cX3_takes 100 = .ok (.ireturn, 1) := by decide +kernel
theorem dX3_takes_101 : decode cX3_takes 101 = .ok (.aload_n 0, 1) := by decide +kernel
theorem dX3_takes_102 : decode cX3_takes 102 = .ok (.iload_n 1, 1) := by decide +kernel
theorem dX3_takes_103 : decode cX3_takes 103 = .ok (.invokevirtual 64, 3) := by decide +kernel
theorem dX3_takes_106 : decode cX3_takes 106 = .ok (.ireturn, 1) := by decide +kernel
theorem dX3_takes_107 : decode cX3_takes 107 = .ok (.iconst 0, 1) := by decide +kernel
theorem dX3_takes_108 : decode cX3_takes 108 = .ok (.ireturn, 1) := by decide +kernel
theorem dX3_takesComma_0 : decode cX3_takesComma 0 = .ok (.aload_n 0, 1) := by decide +kernel
theorem dX3_takesComma_1 : decode cX3_takesComma 1 = .ok (.getfield 31, 3) := by decide +kernel
theorem dX3_takesComma_4 : decode cX3_takesComma 4 = .ok (.ifCond .eq 7, 3) := by decide +kernel
theorem dX3_takesComma_7 : decode cX3_takesComma 7 = .ok (.iconst 5, 1) := by decide +kernel
theorem dX3_takesComma_8 : decode cX3_takesComma 8 = .ok (.goto 5, 3) := by decide +kernel
theorem dX3_takesComma_11 : decode cX3_takesComma 11 = .ok (.bipush 12, 2) := by decide +kernel
theorem dX3_takesComma_13 : decode cX3_takesComma 13 = .ok (.istore_n 1, 1) := by decide +kernel
theorem dX3_takesComma_14 : decode cX3_takesComma 14 = .ok (.aload_n 0, 1) := by decide +kernel
theorem dX3_takesComma_15 : decode cX3_takesComma 15 = .ok (.invokevirtual 73, 3) := by decide +kernel
theorem dX3_takesComma_18 : decode cX3_takesComma 18 = .ok (.getfield 85, 3) := by decide +kernel
theorem dX3_takesComma_21 : decode cX3_takesComma 21 = .ok (.iload_n 1, 1) := by decide +kernel
theorem dX3_takesComma_22 : decode cX3_takesComma 22 = .ok (.if_icmp .ge 15, 3) := by decide +kernel
theorem dX3_takesComma_25 : decode cX3_takesComma 25 = .ok (.aload_n 0, 1) := by decide +kernel
theorem dX3_takesComma_26 : decode cX3_takesComma 26 = .ok (.iconst 1, 1) := by decide +kernel
theorem dX3_takesComma_27 : decode cX3_takesComma 27 = .ok (.invokevirtual 48, 3) := by decide +kernel
theorem dX3_takesComma_30 : decode cX3_takesComma 30 = .ok (.ifCond .eq 7, 3) := by decide +kernel
theorem dX3_takesComma_33 : decode cX3_takesComma 33 = .ok (.iconst 1, 1) := by decide +kernel
theorem dX3_takesComma_34 : decode cX3_takesComma 34 = .ok (.goto 4, 3) := by decide +kernel
theorem dX3_takesComma_37 : decode cX3_takesComma 37 = .ok (.iconst 0, 1) := by decide +kernel
theorem dX3_takesComma_38 : decode cX3_takesComma 38 = .ok (.ireturn, 1) := by decide +kernel
theorem dX3_takesEndOfPart_0 : decode cX3_takesEndOfPart 0 = .ok (.iload_n 1, 1) := by decide +kernel
theorem dX3_takesEndOfPart_1 : decode cX3_takesEndOfPart 1 = .ok (.bipush 59, 2) := by decide +kernel
theorem dX3_takesEndOfPart_3 : decode cX3_takesEndOfPart 3 = .ok (.if_icmp .eq 5, 3) := by decide +kernel
theorem dX3_takesEndOfPart_6 : decode cX3_takesEndOfPart 6 = .ok (.iconst 0, 1) := by decide +kernel
theorem dX3_takesEndOfPart_7 : decode cX3_takesEndOfPart 7 = .ok (.ireturn, 1) := by decide +kernel
theorem dX3_takesEndOfPart_8 : decode cX3_takesEndOfPart 8 = .ok (.aload_n 0, 1) := by decide +kernel
theorem dX3_takesEndOfPart_9 : decode cX3_takesEndOfPart 9 = .ok (.getfield 31, 3) := by decide +kernel
theorem dX3_takesEndOfPart_12 : decode cX3_takesEndOfPart 12 = .ok (.istore_n 2, 1) := by decide +kernel
theorem dX3_takesEndOfPart_13 : decode cX3_takesEndOfPart 13 = .ok (.aload_n 0, 1) := by decide +kernel
theorem dX3_takesEndOfPart_14 : decode cX3_takesEndOfPart 14 = .ok (.iconst 0, 1) := by decide +kernel
theorem dX3_takesEndOfPart_15 : decode cX3_takesEndOfPart 15 = .ok (.putfield 31, 3) := by decide +kernel
theorem dX3_takesEndOfPart_18 : decode cX3_takesEndOfPart 18 = .ok (.aload_n 0, 1) := by decide +kernel
theorem dX3_takesEndOfPart_19 : decode cX3_takesEndOfPart 19 = .ok (.iload_n 2, 1) := by decide +kernel
theorem dX3_takesEndOfPart_20 : decode cX3_takesEndOfPart 20 = .ok (.ifCond .eq 7, 3) := by decide +kernel
theorem dX3_takesEndOfPart_23 : decode cX3_takesEndOfPart 23 = .ok (.iconst 1, 1) := by decide +kernel
theorem dX3_takesEndOfPart_24 : decode cX3_takesEndOfPart 24 = .ok (.goto 4, 3) := by decide +kernel
theorem dX3_takesEndOfPart_27 : decode cX3_takesEndOfPart 27 = .ok (.iconst 5, 1) := by decide +kernel
theorem dX3_takesEndOfPart_28 : decode cX3_takesEndOfPart 28 = .ok (.invokevirtual 48, 3) := by decide +kernel
theorem dX3_takesEndOfPart_31 : decode cX3_takesEndOfPart 31 = .ok (.ireturn, 1) := by decide +kernel
theorem dX3_takesFirstDigit_0 : decode cX3_takesFirstDigit 0 = .ok (.iload_n 1, 1) := by decide +kernel
theorem dX3_takesFirstDigit_1 : decode cX3_takesFirstDigit 1 = .ok (.invokestatic 67, 3) := by decide +kernel
theorem dX3_takesFirstDigit_4 : decode cX3_takesFirstDigit 4 = .ok (.ifCond .ne 5, 3) := by decide +kernel
theorem dX3_takesFirstDigit_7 : decode cX3_takesFirstDigit 7 = .ok (.iconst 0, 1) := by decide +kernel
theorem dX3_takesFirstDigit_8 : decode cX3_takesFirstDigit 8 = .ok (.ireturn, 1) := by decide +kernel
theorem dX3_takesFirstDigit_9 : decode cX3_takesFirstDigit 9 = .ok (.aload_n 0, 1) := by decide +kernel
theorem dX3_takesFirstDigit_10 : decode cX3_takesFirstDigit 10 = .ok (.iload_n 1, 1) := by decide +kernel
theorem dX3_takesFirstDigit_11 : decode cX3_takesFirstDigit 11 = .ok (.bipush 48, 2) := by decide +kernel
theorem dX3_takesFirstDigit_13 : decode cX3_takesFirstDigit 13 = .ok (.isub, 1) := by decide +kernel
theorem dX3_takesFirstDigit_14 : decode cX3_takesFirstDigit 14 = .ok (.putfield 70, 3) := by decide +kernel
theorem dX3_takesFirstDigit_17 : decode cX3_takesFirstDigit 17 = .ok (.aload_n 0, 1) := by decide +kernel
theorem dX3_takesFirstDigit_18 : decode cX3_takesFirstDigit 18 = .ok (.iconst 2, 1) := by decide +kernel
theorem dX3_takesFirstDigit_19 : decode cX3_takesFirstDigit 19 = .ok (.invokevirtual 48, 3) := by decide +kernel
theorem dX3_takesFirstDigit_22 : decode cX3_takesFirstDigit 22 = .ok (.ireturn, 1) := by decide +kernel
theorem dX3_takesSecondDigit_0 : decode cX3_takesSecondDigit 0 = .ok (.iload_n 1, 1) := by decide +kernel
theorem dX3_takesSecondDigit_1 : decode cX3_takesSecondDigit 1 = .ok (.invokestatic 67, 3) := by decide +kernel
theorem dX3_takesSecondDigit_4 : decode cX3_takesSecondDigit 4 = .ok (.ifCond .ne 5, 3) := by decide +kernel
theorem dX3_takesSecondDigit_7 : decode cX3_takesSecondDigit 7 = .ok (.iconst 0, 1) := by decide +kernel
theorem dX3_takesSecondDigit_8 : decode cX3_takesSecondDigit 8 = .ok (.ireturn, 1) := by decide +kernel
theorem dX3_takesSecondDigit_9 : decode cX3_takesSecondDigit 9 = .ok (.iload_n 1, 1) := by decide +kernel
theorem dX3_takesSecondDigit_10 : decode cX3_takesSecondDigit 10 = .ok (.bipush 48, 2) := by decide +kernel
theorem dX3_takesSecondDigit_12 : decode cX3_takesSecondDigit 12 = .ok (.isub, 1) := by decide +kernel
theorem dX3_takesSecondDigit_13 : decode cX3_takesSecondDigit 13 = .ok (.istore_n 2, 1) := by decide +kernel
theorem dX3_takesSecondDigit_14 : decode cX3_takesSecondDigit 14 = .ok (.aload_n 0, 1) := by decide +kernel
theorem dX3_takesSecondDigit_15 : decode cX3_takesSecondDigit 15 = .ok (.invokevirtual 73, 3) := by decide +kernel
theorem dX3_takesSecondDigit_18 : decode cX3_takesSecondDigit 18 = .ok (.astore_n 3, 1) := by decide +kernel
theorem dX3_takesSecondDigit_19 : decode cX3_takesSecondDigit 19 = .ok (.iload_n 2, 1) := by decide +kernel
theorem dX3_takesSecondDigit_20 : decode cX3_takesSecondDigit 20 = .ok (.aload_n 0, 1) := by decide +kernel
theorem dX3_takesSecondDigit_21 : decode cX3_takesSecondDigit 21 = .ok (.getfield 70, 3) := by decide +kernel
theorem dX3_takesSecondDigit_24 : decode cX3_takesSecondDigit 24 = .ok (.if_icmp .eq 15, 3) := by decide +kernel
theorem dX3_takesSecondDigit_27 : decode cX3_takesSecondDigit 27 = .ok (.aload_n 3, 1) := by decide +kernel
theorem dX3_takesSecondDigit_28 : decode cX3_takesSecondDigit 28 = .ok (.aload_n 0, 1) := by decide +kernel
theorem dX3_takesSecondDigit_29 : decode cX3_takesSecondDigit 29 = .ok (.getfield 70, 3) := by decide +kernel
theorem dX3_takesSecondDigit_32 : decode cX3_takesSecondDigit 32 = .ok (.iload_n 2, 1) := by decide +kernel
theorem dX3_takesSecondDigit_33 : decode cX3_takesSecondDigit 33 = .ok (.invokevirtual 77, 3) := by decide +kernel
theorem dX3_takesSecondDigit_36 : decode cX3_takesSecondDigit 36 = .ok (.ifCond .eq 5, 3) := by decide +kernel
theorem dX3_takesSecondDigit_39 : decode cX3_takesSecondDigit 39 = .ok (.iconst 0, 1) := by decide +kernel
theorem dX3_takesSecondDigit_40 : decode cX3_takesSecondDigit 40 = .ok (.ireturn, 1) := by decide +kernel
theorem dX3_takesSecondDigit_41 : decode cX3_takesSecondDigit 41 = .ok (.aload_n 3, 1) := by decide +kernel
theorem dX3_takesSecondDigit_42 : decode cX3_takesSecondDigit 42 = .ok (.aload_n 0, 1) := by decide +kernel
theorem dX3_takesSecondDigit_43 : decode cX3_takesSecondDigit 43 = .ok (.getfield 70, 3) := by decide +kernel
theorem dX3_takesSecondDigit_46 : decode cX3_takesSecondDigit 46 = .ok (.iload_n 2, 1) := by decide +kernel
theorem dX3_takesSecondDigit_47 : decode cX3_takesSecondDigit 47 = .ok (.invokevirtual 81, 3) := by decide +kernel
theorem dX3_takesSecondDigit_50 : decode cX3_takesSecondDigit 50 = .ok (.aload_n 0, 1) := by decide +kernel
theorem dX3_takesSecondDigit_51 : decode cX3_takesSecondDigit 51 = .ok (.iconst 3, 1) := by decide +kernel
theorem dX3_takesSecondDigit_52 : decode cX3_takesSecondDigit 52 = .ok (.invokevirtual 48, 3) := by decide +kernel
theorem dX3_takesSecondDigit_55 : decode cX3_takesSecondDigit 55 = .ok (.ireturn, 1) := by decide +kernel
theorem dX3_takesTerm_0 : decode cX3_takesTerm 0 = .ok (.iload_n 1, 1) := by decide +kernel
theorem dX3_takesTerm_1 : decode cX3_takesTerm 1 = .ok (.bipush 49, 2) := by decide +kernel
theorem dX3_takesTerm_3 : decode cX3_takesTerm 3 = .ok (.if_icmp .lt 9, 3) := by decide +kernel
theorem dX3_takesTerm_6 : decode cX3_takesTerm 6 = .ok (.iload_n 1, 1) := by decide +kernel
theorem dX3_takesTerm_7 : decode cX3_takesTerm 7 = .ok (.bipush 57, 2) := by decide +kernel
theorem dX3_takesTerm_9 : decode cX3_takesTerm 9 = .ok (.if_icmp .le 5, 3) := by decide +kernel
theorem dX3_takesTerm_12 : decode cX3_takesTerm 12 = .ok (.iconst 0, 1) := by decide +kernel
theorem dX3_takesTerm_13 : decode cX3_takesTerm 13 = .ok (.ireturn, 1) := by decide +kernel
theorem dX3_takesTerm_14 : decode cX3_takesTerm 14 = .ok (.aload_n 0, 1) := by decide +kernel
theorem dX3_takesTerm_15 : decode cX3_takesTerm 15 = .ok (.iload_n 1, 1) := by decide +kernel
theorem dX3_takesTerm_16 : decode cX3_takesTerm 16 = .ok (.bipush 48, 2) := by decide +kernel
theorem dX3_takesTerm_18 : decode cX3_takesTerm 18 = .ok (.isub, 1) := by decide +kernel
theorem dX3_takesTerm_19 : decode cX3_takesTerm 19 = .ok (.putfield 24, 3) := by decide +kernel
theorem dX3_takesTerm_22 : decode cX3_takesTerm 22 = .ok (.aload_n 0, 1) := by decide +kernel
theorem dX3_takesTerm_23 : decode cX3_takesTerm 23 = .ok (.bipush 6, 2) := by decide +kernel
theorem dX3_takesTerm_25 : decode cX3_takesTerm 25 = .ok (.invokevirtual 48, 3) := by decide +kernel
theorem dX3_takesTerm_28 : decode cX3_takesTerm 28 = .ok (.ireturn, 1) := by decide +kernel
theorem dX4_add_0 : decode cX4_add 0 = .ok (.aload_n 0, 1) := by decide +kernel
theorem dX4_add_1 : decode cX4_add 1 = .ok (.getfield 30, 3) := by decide +kernel
theorem dX4_add_4 : decode cX4_add 4 = .ok (.istore 5, 2) := by decide +kernel
theorem dX4_add_6 : decode cX4_add 6 = .ok (.aload_n 0, 1) := by decide +kernel
theorem dX4_add_7 : decode cX4_add 7 = .ok (.getfield 9, 3) := by decide +kernel
theorem dX4_add_10 : decode cX4_add 10 = .ok (.iload 5, 2) := by decide +kernel
theorem dX4_add_12 : decode cX4_add 12 = .ok (.iload_n 1, 1) := by decide +kernel
theorem dX4_add_13 : decode cX4_add 13 = .ok (.iastore, 1) := by decide +kernel
theorem dX4_add_14 : decode cX4_add 14 = .ok (.aload_n 0, 1) := by decide +kernel
theorem dX4_add_15 : decode cX4_add 15 = .ok (.getfield 15, 3) := by decide +kernel
theorem dX4_add_18 : decode cX4_add 18 = .ok (.iload 5, 2) := by decide +kernel
theorem dX4_add_20 : decode cX4_add 20 = .ok (.iload_n 2, 1) := by decide +kernel
theorem dX4_add_21 : decode cX4_add 21 = .ok (.iastore, 1) := by decide +kernel
theorem dX4_add_22 : decode cX4_add 22 = .ok (.aload_n 0, 1) := by decide +kernel
theorem dX4_add_23 : decode cX4_add 23 = .ok (.getfield 18, 3) := by decide +kernel
theorem dX4_add_26 : decode cX4_add 26 = .ok (.iload 5, 2) := by decide +kernel
theorem dX4_add_28 : decode cX4_add 28 = .ok (.iload_n 3, 1) := by decide +kernel
theorem dX4_add_29 : decode cX4_add 29 = .ok (.iastore, 1) := by decide +kernel
theorem dX4_add_30 : decode cX4_add 30 = .ok (.aload_n 0, 1) := by decide +kernel
theorem dX4_add_31 : decode cX4_add 31 = .ok (.getfield 21, 3) := by decide +kernel
theorem dX4_add_34 : decode cX4_add 34 = .ok (.iload 5, 2) := by decide +kernel
theorem dX4_add_36 : decode cX4_add 36 = .ok (.aload_n 0, 1) := by decide +kernel
theorem dX4_add_37 : decode cX4_add 37 = .ok (.getfield 34, 3) := by decide +kernel
theorem dX4_add_40 : decode cX4_add 40 = .ok (.iastore, 1) := by decide +kernel
theorem dX4_add_41 : decode cX4_add 41 = .ok (.aload_n 0, 1) := by decide +kernel
theorem dX4_add_42 : decode cX4_add 42 = .ok (.getfield 24, 3) := by decide +kernel
theorem dX4_add_45 : decode cX4_add 45 = .ok (.iload 5, 2) := by decide +kernel
theorem dX4_add_47 : decode cX4_add 47 = .ok (.iload 4, 2) := by decide +kernel
theorem dX4_add_49 : decode cX4_add 49 = .ok (.iastore, 1) := by decide +kernel
theorem dX4_add_50 : decode cX4_add 50 = .ok (.aload_n 0, 1) := by decide +kernel
theorem dX4_add_51 : decode cX4_add 51 = .ok (.getfield 27, 3) := by decide +kernel
theorem dX4_add_54 : decode cX4_add 54 = .ok (.iload 5, 2) := by decide +kernel
theorem dX4_add_56 : decode cX4_add 56 = .ok (.iconst (-1), 1) := by decide +kernel
theorem dX4_add_57 : decode cX4_add 57 = .ok (.iastore, 1) := by decide +kernel
theorem dX4_add_58 : decode cX4_add 58 = .ok (.iload 4, 2) := by decide +kernel
theorem dX4_add_60 : decode cX4_add 60 = .ok (.iconst (-1), 1) := by decide +kernel
theorem dX4_add_61 : decode cX4_add 61 = .ok (.if_icmp .eq 12, 3) := by decide +kernel
theorem dX4_add_64 : decode cX4_add 64 = .ok (.aload_n 0, 1) := by decide +kernel
theorem dX4_add_65 : decode cX4_add 65 = .ok (.getfield 27, 3) := by decide +kernel
theorem dX4_add_68 : decode cX4_add 68 = .ok (.iload 4, 2) := by decide +kernel
theorem dX4_add_70 : decode cX4_add 70 = .ok (.iload 5, 2) := by decide +kernel
theorem dX4_add_72 : decode cX4_add 72 = .ok (.iastore, 1) := by decide +kernel
theorem dX4_add_73 : decode cX4_add 73 = .ok (.aload_n 0, 1) := by decide +kernel
theorem dX4_add_74 : decode cX4_add 74 = .ok (.dup, 1) := by decide +kernel
theorem dX4_add_75 : decode cX4_add 75 = .ok (.getfield 30, 3) := by decide +kernel
theorem dX4_add_78 : decode cX4_add 78 = .ok (.iconst 1, 1) := by decide +kernel
theorem dX4_add_79 : decode cX4_add 79 = .ok (.iadd, 1) := by decide +kernel
theorem dX4_add_80 : decode cX4_add 80 = .ok (.putfield 30, 3) := by decide +kernel
theorem dX4_add_83 : decode cX4_add 83 = .ok (.iload 5, 2) := by decide +kernel
theorem dX4_add_85 : decode cX4_add 85 = .ok (.ireturn, 1) := by decide +kernel
theorem dX4_aheadOf_0 : decode cX4_aheadOf 0 = .ok (.iconst 0, 1) := by decide +kernel
theorem dX4_aheadOf_1 : decode cX4_aheadOf 1 = .ok (.istore_n 2, 1) := by decide +kernel
theorem dX4_aheadOf_2 : decode cX4_aheadOf 2 = .ok (.iload_n 1, 1) := by decide +kernel
theorem dX4_aheadOf_3 : decode cX4_aheadOf 3 = .ok (.istore_n 3, 1) := by decide +kernel
theorem dX4_aheadOf_4 : decode cX4_aheadOf 4 = .ok (.iload_n 2, 1) := by decide +kernel
theorem dX4_aheadOf_5 : decode cX4_aheadOf 5 = .ok (.bipush 12, 2) := by decide +kernel
theorem dX4_aheadOf_7 : decode cX4_aheadOf 7 = .ok (.if_icmp .ge 26, 3) := by decide +kernel
theorem dX4_aheadOf_10 : decode cX4_aheadOf 10 = .ok (.aload_n 0, 1) := by decide +kernel
theorem dX4_aheadOf_11 : decode cX4_aheadOf 11 = .ok (.getfield 24, 3) := by decide +kernel
theorem dX4_aheadOf_14 : decode cX4_aheadOf 14 = .ok (.iload_n 3, 1) := by decide +kernel
theorem dX4_aheadOf_15 : decode cX4_aheadOf 15 = .ok (.iaload, 1) := by decide +kernel
theorem dX4_aheadOf_16 : decode cX4_aheadOf 16 = .ok (.iconst (-1), 1) := by decide +kernel
theorem dX4_aheadOf_17 : decode cX4_aheadOf 17 = .ok (.if_icmp .eq 16, 3) := by decide +kernel
theorem dX4_aheadOf_20 : decode cX4_aheadOf 20 = .ok (.aload_n 0, 1) := by decide +kernel
theorem dX4_aheadOf_21 : decode cX4_aheadOf 21 = .ok (.getfield 24, 3) := by decide +kernel
theorem dX4_aheadOf_24 : decode cX4_aheadOf 24 = .ok (.iload_n 3, 1) := by decide +kernel
theorem dX4_aheadOf_25 : decode cX4_aheadOf 25 = .ok (.iaload, 1) := by decide +kernel
theorem dX4_aheadOf_26 : decode cX4_aheadOf 26 = .ok (.istore_n 3, 1) := by decide +kernel
theorem dX4_aheadOf_27 : decode cX4_aheadOf 27 = .ok (.iinc 2 1, 3) := by decide +kernel
theorem dX4_aheadOf_30 : decode cX4_aheadOf 30 = .ok (.goto (-26), 3) := by decide +kernel
theorem dX4_aheadOf_33 : decode cX4_aheadOf 33 = .ok (.iload_n 2, 1) := by decide +kernel
theorem dX4_aheadOf_34 : decode cX4_aheadOf 34 = .ok (.ireturn, 1) := by decide +kernel
theorem dX4_clear_0 : decode cX4_clear 0 = .ok (.aload_n 0, 1) := by decide +kernel
theorem dX4_clear_1 : decode cX4_clear 1 = .ok (.iconst 0, 1) := by decide +kernel
theorem dX4_clear_2 : decode cX4_clear 2 = .ok (.putfield 30, 3) := by decide +kernel
theorem dX4_clear_5 : decode cX4_clear 5 = .ok (.aload_n 0, 1) := by decide +kernel
theorem dX4_clear_6 : decode cX4_clear 6 = .ok (.iconst 0, 1) := by decide +kernel
theorem dX4_clear_7 : decode cX4_clear 7 = .ok (.putfield 34, 3) := by decide +kernel
theorem dX4_clear_10 : decode cX4_clear 10 = .ok (.return_, 1) := by decide +kernel
theorem dX4_copyFrom_0 : decode cX4_copyFrom 0 = .ok (.aload_n 1, 1) := by decide +kernel
theorem dX4_copyFrom_1 : decode cX4_copyFrom 1 = .ok (.getfield 9, 3) := by decide +kernel
theorem dX4_copyFrom_4 : decode cX4_copyFrom 4 = .ok (.iconst 0, 1) := by decide +kernel
theorem dX4_copyFrom_5 : decode cX4_copyFrom 5 = .ok (.aload_n 0, 1) := by decide +kernel
theorem dX4_copyFrom_6 : decode cX4_copyFrom 6 = .ok (.getfield 9, 3) := by decide +kernel
theorem dX4_copyFrom_9 : decode cX4_copyFrom 9 = .ok (.iconst 0, 1) := by decide +kernel
theorem dX4_copyFrom_10 : decode cX4_copyFrom 10 = .ok (.bipush 12, 2) := by decide +kernel
theorem dX4_copyFrom_12 : decode cX4_copyFrom 12 = .ok (.invokestatic 37, 3) := by decide +kernel
theorem dX4_copyFrom_15 : decode cX4_copyFrom 15 = .ok (.aload_n 1, 1) := by decide +kernel
theorem dX4_copyFrom_16 : decode cX4_copyFrom 16 = .ok (.getfield 15, 3) := by decide +kernel
theorem dX4_copyFrom_19 : decode cX4_copyFrom 19 = .ok (.iconst 0, 1) := by decide +kernel
theorem dX4_copyFrom_20 : decode cX4_copyFrom 20 = .ok (.aload_n 0, 1) := by decide +kernel
theorem dX4_copyFrom_21 : decode cX4_copyFrom 21 = .ok (.getfield 15, 3) := by decide +kernel
theorem dX4_copyFrom_24 : decode cX4_copyFrom 24 = .ok (.iconst 0, 1) := by decide +kernel
theorem dX4_copyFrom_25 : decode cX4_copyFrom 25 = .ok (.bipush 12, 2) := by decide +kernel
theorem dX4_copyFrom_27 : decode cX4_copyFrom 27 = .ok (.invokestatic 37, 3) := by decide +kernel
theorem dX4_copyFrom_30 : decode cX4_copyFrom 30 = .ok (.aload_n 1, 1) := by decide +kernel
theorem dX4_copyFrom_31 : decode cX4_copyFrom 31 = .ok (.getfield 18, 3) := by decide +kernel
theorem dX4_copyFrom_34 : decode cX4_copyFrom 34 = .ok (.iconst 0, 1) := by decide +kernel
theorem dX4_copyFrom_35 : decode cX4_copyFrom 35 = .ok (.aload_n 0, 1) := by decide +kernel
theorem dX4_copyFrom_36 : decode cX4_copyFrom 36 = .ok (.getfield 18, 3) := by decide +kernel
theorem dX4_copyFrom_39 : decode cX4_copyFrom 39 = .ok (.iconst 0, 1) := by decide +kernel
theorem dX4_copyFrom_40 : decode cX4_copyFrom 40 = .ok (.bipush 12, 2) := by decide +kernel
theorem dX4_copyFrom_42 : decode cX4_copyFrom 42 = .ok (.invokestatic 37, 3) := by decide +kernel
theorem dX4_copyFrom_45 : decode cX4_copyFrom 45 = .ok (.aload_n 1, 1) := by decide +kernel
theorem dX4_copyFrom_46 : decode cX4_copyFrom 46 = .ok (.getfield 21, 3) := by decide +kernel
theorem dX4_copyFrom_49 : decode cX4_copyFrom 49 = .ok (.iconst 0, 1) := by decide +kernel
theorem dX4_copyFrom_50 : decode cX4_copyFrom 50 = .ok (.aload_n 0, 1) := by decide +kernel
theorem dX4_copyFrom_51 : decode cX4_copyFrom 51 = .ok (.getfield 21, 3) := by decide +kernel
theorem dX4_copyFrom_54 : decode cX4_copyFrom 54 = .ok (.iconst 0, 1) := by decide +kernel
theorem dX4_copyFrom_55 : decode cX4_copyFrom 55 = .ok (.bipush 12, 2) := by decide +kernel
theorem dX4_copyFrom_57 : decode cX4_copyFrom 57 = .ok (.invokestatic 37, 3) := by decide +kernel
theorem dX4_copyFrom_60 : decode cX4_copyFrom 60 = .ok (.aload_n 1, 1) := by decide +kernel
theorem dX4_copyFrom_61 : decode cX4_copyFrom 61 = .ok (.getfield 24, 3) := by decide +kernel
theorem dX4_copyFrom_64 : decode cX4_copyFrom 64 = .ok (.iconst 0, 1) := by decide +kernel
theorem dX4_copyFrom_65 : decode cX4_copyFrom 65 = .ok (.aload_n 0, 1) := by decide +kernel
theorem dX4_copyFrom_66 : decode cX4_copyFrom 66 = .ok (.getfield 24, 3) := by decide +kernel
theorem dX4_copyFrom_69 : decode cX4_copyFrom 69 = .ok (.iconst 0, 1) := by decide +kernel
theorem dX4_copyFrom_70 : decode cX4_copyFrom 70 = .ok (.bipush 12, 2) := by decide +kernel
theorem dX4_copyFrom_72 : decode cX4_copyFrom 72 = .ok (.invokestatic 37, 3) := by decide +kernel
theorem dX4_copyFrom_75 : decode cX4_copyFrom 75 = .ok (.aload_n 1, 1) := by decide +kernel
theorem dX4_copyFrom_76 : decode cX4_copyFrom 76 = .ok (.getfield 27, 3) := by decide +kernel
theorem dX4_copyFrom_79 : decode cX4_copyFrom 79 = .ok (.iconst 0, 1) := by decide +kernel
theorem dX4_copyFrom_80 : decode cX4_copyFrom 80 = .ok (.aload_n 0, 1) := by decide +kernel
theorem dX4_copyFrom_81 : decode cX4_copyFrom 81 = .ok (.getfield 27, 3) := by decide +kernel
theorem dX4_copyFrom_84 : decode cX4_copyFrom 84 = .ok (.iconst 0, 1) := by decide +kernel
theorem dX4_copyFrom_85 : decode cX4_copyFrom 85 = .ok (.bipush 12, 2) := by decide +kernel
theorem dX4_copyFrom_87 : decode cX4_copyFrom 87 = .ok (.invokestatic 37, 3) := by decide +kernel
theorem dX4_copyFrom_90 : decode cX4_copyFrom 90 = .ok (.aload_n 0, 1) := by decide +kernel
theorem dX4_copyFrom_91 : decode cX4_copyFrom 91 = .ok (.aload_n 1, 1) := by decide +kernel
theorem dX4_copyFrom_92 : decode cX4_copyFrom 92 = .ok (.getfield 30, 3) := by decide +kernel
theorem dX4_copyFrom_95 : decode cX4_copyFrom 95 = .ok (.putfield 30, 3) := by decide +kernel
theorem dX4_copyFrom_98 : decode cX4_copyFrom 98 = .ok (.aload_n 0, 1) := by decide +kernel
theorem dX4_copyFrom_99 : decode cX4_copyFrom 99 = .ok (.aload_n 1, 1) := by decide +kernel
theorem dX4_copyFrom_100 : decode cX4_copyFrom 100 = .ok (.getfield 34, 3) := by decide +kernel
theorem dX4_copyFrom_103 : decode cX4_copyFrom 103 = .ok (.putfield 34, 3) := by decide +kernel
theorem dX4_copyFrom_106 : decode cX4_copyFrom 106 = .ok (.return_, 1) := by decide +kernel
theorem dX4_doneBy_0 : decode cX4_doneBy 0 = .ok (.iconst 0, 1) := by decide +kernel
theorem dX4_doneBy_1 : decode cX4_doneBy 1 = .ok (.istore_n 2, 1) := by decide +kernel
theorem dX4_doneBy_2 : decode cX4_doneBy 2 = .ok (.iconst 0, 1) := by decide +kernel
theorem dX4_doneBy_3 : decode cX4_doneBy 3 = .ok (.istore_n 3, 1) := by decide +kernel
theorem dX4_doneBy_4 : decode cX4_doneBy 4 = .ok (.iload_n 3, 1) := by decide +kernel
theorem dX4_doneBy_5 : decode cX4_doneBy 5 = .ok (.aload_n 0, 1) := by decide +kernel
theorem dX4_doneBy_6 : decode cX4_doneBy 6 = .ok (.getfield 30, 3) := by decide +kernel
theorem dX4_doneBy_9 : decode cX4_doneBy 9 = .ok (.if_icmp .ge 22, 3) := by decide +kernel
theorem dX4_doneBy_12 : decode cX4_doneBy 12 = .ok (.aload_n 0, 1) := by decide +kernel
theorem dX4_doneBy_13 : decode cX4_doneBy 13 = .ok (.getfield 9, 3) := by decide +kernel
theorem dX4_doneBy_16 : decode cX4_doneBy 16 = .ok (.iload_n 3, 1) := by decide +kernel
theorem dX4_doneBy_17 : decode cX4_doneBy 17 = .ok (.iaload, 1) := by decide +kernel
theorem dX4_doneBy_18 : decode cX4_doneBy 18 = .ok (.iload_n 1, 1) := by decide +kernel
theorem dX4_doneBy_19 : decode cX4_doneBy 19 = .ok (.if_icmp .ne 6, 3) := by decide +kernel
theorem dX4_doneBy_22 : decode cX4_doneBy 22 = .ok (.iinc 2 1, 3) := by decide +kernel
theorem dX4_doneBy_25 : decode cX4_doneBy 25 = .ok (.iinc 3 1, 3) := by decide +kernel
theorem dX4_doneBy_28 : decode cX4_doneBy 28 = .ok (.goto (-24), 3) := by decide +kernel
theorem dX4_doneBy_31 : decode cX4_doneBy 31 = .ok (.iload_n 2, 1) := by decide +kernel
theorem dX4_doneBy_32 : decode cX4_doneBy 32 = .ok (.ireturn, 1) := by decide +kernel
theorem dX4_doneFor_0 : decode cX4_doneFor 0 = .ok (.iconst 0, 1) := by decide +kernel
theorem dX4_doneFor_1 : decode cX4_doneFor 1 = .ok (.istore_n 2, 1) := by decide +kernel
theorem dX4_doneFor_2 : decode cX4_doneFor 2 = .ok (.iconst 0, 1) := by decide +kernel
theorem dX4_doneFor_3 : decode cX4_doneFor 3 = .ok (.istore_n 3, 1) := by decide +kernel
theorem dX4_doneFor_4 : decode cX4_doneFor 4 = .ok (.iload_n 3, 1) := by decide +kernel
theorem dX4_doneFor_5 : decode cX4_doneFor 5 = .ok (.aload_n 0, 1) := by decide +kernel
theorem dX4_doneFor_6 : decode cX4_doneFor 6 = .ok (.getfield 30, 3) := by decide +kernel
theorem dX4_doneFor_9 : decode cX4_doneFor 9 = .ok (.if_icmp .ge 22, 3) := by decide +kernel
theorem dX4_doneFor_12 : decode cX4_doneFor 12 = .ok (.aload_n 0, 1) := by decide +kernel
theorem dX4_doneFor_13 : decode cX4_doneFor 13 = .ok (.getfield 15, 3) := by decide +kernel
theorem dX4_doneFor_16 : decode cX4_doneFor 16 = .ok (.iload_n 3, 1) := by decide +kernel
theorem dX4_doneFor_17 : decode cX4_doneFor 17 = .ok (.iaload, 1) := by decide +kernel
theorem dX4_doneFor_18 : decode cX4_doneFor 18 = .ok (.iload_n 1, 1) := by decide +kernel
theorem dX4_doneFor_19 : decode cX4_doneFor 19 = .ok (.if_icmp .ne 6, 3) := by decide +kernel
theorem dX4_doneFor_22 : decode cX4_doneFor 22 = .ok (.iinc 2 1, 3) := by decide +kernel
theorem dX4_doneFor_25 : decode cX4_doneFor 25 = .ok (.iinc 3 1, 3) := by decide +kernel
theorem dX4_doneFor_28 : decode cX4_doneFor 28 = .ok (.goto (-24), 3) := by decide +kernel
theorem dX4_doneFor_31 : decode cX4_doneFor 31 = .ok (.iload_n 2, 1) := by decide +kernel
theorem dX4_doneFor_32 : decode cX4_doneFor 32 = .ok (.ireturn, 1) := by decide +kernel
theorem dX4_firstOf_0 : decode cX4_firstOf 0 = .ok (.iload_n 1, 1) := by decide +kernel
theorem dX4_firstOf_1 : decode cX4_firstOf 1 = .ok (.istore_n 2, 1) := by decide +kernel
theorem dX4_firstOf_2 : decode cX4_firstOf 2 = .ok (.iconst 0, 1) := by decide +kernel
theorem dX4_firstOf_3 : decode cX4_firstOf 3 = .ok (.istore_n 3, 1) := by decide +kernel
theorem dX4_firstOf_4 : decode cX4_firstOf 4 = .ok (.iload_n 3, 1) := by decide +kernel
theorem dX4_firstOf_5 : decode cX4_firstOf 5 = .ok (.bipush 12, 2) := by decide +kernel
theorem dX4_firstOf_7 : decode cX4_firstOf 7 = .ok (.if_icmp .ge 26, 3) := by decide +kernel
theorem dX4_firstOf_10 : decode cX4_firstOf 10 = .ok (.aload_n 0, 1) := by decide +kernel
theorem dX4_firstOf_11 : decode cX4_firstOf 11 = .ok (.getfield 24, 3) := by decide +kernel
theorem dX4_firstOf_14 : decode cX4_firstOf 14 = .ok (.iload_n 2, 1) := by decide +kernel
theorem dX4_firstOf_15 : decode cX4_firstOf 15 = .ok (.iaload, 1) := by decide +kernel
theorem dX4_firstOf_16 : decode cX4_firstOf 16 = .ok (.iconst (-1), 1) := by decide +kernel
theorem dX4_firstOf_17 : decode cX4_firstOf 17 = .ok (.if_icmp .eq 16, 3) := by decide +kernel
theorem dX4_firstOf_20 : decode cX4_firstOf 20 = .ok (.aload_n 0, 1) := by decide +kernel
theorem dX4_firstOf_21 : decode cX4_firstOf 21 = .ok (.getfield 24, 3) := by decide +kernel
theorem dX4_firstOf_24 : decode cX4_firstOf 24 = .ok (.iload_n 2, 1) := by decide +kernel
theorem dX4_firstOf_25 : decode cX4_firstOf 25 = .ok (.iaload, 1) := by decide +kernel
theorem dX4_firstOf_26 : decode cX4_firstOf 26 = .ok (.istore_n 2, 1) := by decide +kernel
theorem dX4_firstOf_27 : decode cX4_firstOf 27 = .ok (.iinc 3 1, 3) := by decide +kernel
theorem dX4_firstOf_30 : decode cX4_firstOf 30 = .ok (.goto (-26), 3) := by decide +kernel
theorem dX4_firstOf_33 : decode cX4_firstOf 33 = .ok (.iload_n 2, 1) := by decide +kernel
theorem dX4_firstOf_34 : decode cX4_firstOf 34 = .ok (.ireturn, 1) := by decide +kernel
theorem dX4_has_0 : decode cX4_has 0 = .ok (.iload_n 1, 1) := by decide +kernel
theorem dX4_has_1 : decode cX4_has 1 = .ok (.ifCond .lt 15, 3) := by decide +kernel
theorem dX4_has_4 : decode cX4_has 4 = .ok (.iload_n 1, 1) := by decide +kernel
theorem dX4_has_5 : decode cX4_has 5 = .ok (.aload_n 0, 1) := by decide +kernel
theorem dX4_has_6 : decode cX4_has 6 = .ok (.getfield 30, 3) := by decide +kernel
theorem dX4_has_9 : decode cX4_has 9 = .ok (.if_icmp .ge 7, 3) := by decide +kernel
theorem dX4_has_12 : decode cX4_has 12 = .ok (.iconst 1, 1) := by decide +kernel
theorem dX4_has_13 : decode cX4_has 13 = .ok (.goto 4, 3) := by decide +kernel
theorem dX4_has_16 : decode cX4_has 16 = .ok (.iconst 0, 1) := by decide +kernel
theorem dX4_has_17 : decode cX4_has 17 = .ok (.ireturn, 1) := by decide +kernel
theorem dX4_homeChains_0 : decode cX4_homeChains 0 = .ok (.iconst 0, 1) := by decide +kernel
theorem dX4_homeChains_1 : decode cX4_homeChains 1 = .ok (.istore_n 1, 1) := by decide +kernel
theorem dX4_homeChains_2 : decode cX4_homeChains 2 = .ok (.iconst 0, 1) := by decide +kernel
theorem dX4_homeChains_3 : decode cX4_homeChains 3 = .ok (.istore_n 2, 1) := by decide +kernel
theorem dX4_homeChains_4 : decode cX4_homeChains 4 = .ok (.iload_n 2, 1) := by decide +kernel
theorem dX4_homeChains_5 : decode cX4_homeChains 5 = .ok (.aload_n 0, 1) := by decide +kernel
theorem dX4_homeChains_6 : decode cX4_homeChains 6 = .ok (.getfield 30, 3) := by decide +kernel
theorem dX4_homeChains_9 : decode cX4_homeChains 9 = .ok (.if_icmp .ge 30, 3) := by decide +kernel
theorem dX4_homeChains_12 : decode cX4_homeChains 12 = .ok (.aload_n 0, 1) := by decide +kernel
theorem dX4_homeChains_13 : decode cX4_homeChains 13 = .ok (.getfield 24, 3) := by decide +kernel
theorem dX4_homeChains_16 : decode cX4_homeChains 16 = .ok (.iload_n 2, 1) := by decide +kernel
theorem dX4_homeChains_17 : decode cX4_homeChains 17 = .ok (.iaload, 1) := by decide +kernel
theorem dX4_homeChains_18 : decode cX4_homeChains 18 = .ok (.iconst (-1), 1) := by decide +kernel
theorem dX4_homeChains_19 : decode cX4_homeChains 19 = .ok (.if_icmp .ne 14, 3) := by decide +kernel
theorem dX4_homeChains_22 : decode cX4_homeChains 22 = .ok (.aload_n 0, 1) := by decide +kernel
theorem dX4_homeChains_23 : decode cX4_homeChains 23 = .ok (.iload_n 2, 1) := by decide +kernel
theorem dX4_homeChains_24 : decode cX4_homeChains 24 = .ok (.invokevirtual 74, 3) := by decide +kernel
theorem dX4_homeChains_27 : decode cX4_homeChains 27 = .ok (.ifCond .eq 6, 3) := by decide +kernel
theorem dX4_homeChains_30 : decode cX4_homeChains 30 = .ok (.iinc 1 1, 3) := by decide +kernel
theorem dX4_homeChains_33 : decode cX4_homeChains 33 = .ok (.iinc 2 1, 3) := by decide +kernel
theorem dX4_homeChains_36 : decode cX4_homeChains 36 = .ok (.goto (-32), 3) := by decide +kernel
theorem dX4_homeChains_39 : decode cX4_homeChains 39 = .ok (.iload_n 1, 1) := by decide +kernel
theorem dX4_homeChains_40 : decode cX4_homeChains 40 = .ok (.ireturn, 1) := by decide +kernel
theorem dX4_init_0 : decode cX4_init 0 = .ok (.aload_n 0, 1) := by decide +kernel
theorem dX4_init_1 : decode cX4_init 1 = .ok (.invokespecial 3, 3) := by decide +kernel
theorem dX4_init_4 : decode cX4_init 4 = .ok (.aload_n 0, 1) := by decide +kernel
theorem dX4_init_5 : decode cX4_init 5 = .ok (.bipush 12, 2) := by decide +kernel
theorem dX4_init_7 : decode cX4_init 7 = .ok (.newarray .int, 2) := by decide +kernel
theorem dX4_init_9 : decode cX4_init 9 = .ok (.putfield 9, 3) := by decide +kernel
theorem dX4_init_12 : decode cX4_init 12 = .ok (.aload_n 0, 1) := by decide +kernel
theorem dX4_init_13 : decode cX4_init 13 = .ok (.bipush 12, 2) := by decide +kernel
theorem dX4_init_15 : decode cX4_init 15 = .ok (.newarray .int, 2) := by decide +kernel
theorem dX4_init_17 : decode cX4_init 17 = .ok (.putfield 15, 3) := by decide +kernel
theorem dX4_init_20 : decode cX4_init 20 = .ok (.aload_n 0, 1) := by decide +kernel
theorem dX4_init_21 : decode cX4_init 21 = .ok (.bipush 12, 2) := by decide +kernel
theorem dX4_init_23 : decode cX4_init 23 = .ok (.newarray .int, 2) := by decide +kernel
theorem dX4_init_25 : decode cX4_init 25 = .ok (.putfield 18, 3) := by decide +kernel
theorem dX4_init_28 : decode cX4_init 28 = .ok (.aload_n 0, 1) := by decide +kernel
theorem dX4_init_29 : decode cX4_init 29 = .ok (.bipush 12, 2) := by decide +kernel
theorem dX4_init_31 : decode cX4_init 31 = .ok (.newarray .int, 2) := by decide +kernel
theorem dX4_init_33 : decode cX4_init 33 = .ok (.putfield 21, 3) := by decide +kernel
theorem dX4_init_36 : decode cX4_init 36 = .ok (.aload_n 0, 1) := by decide +kernel
theorem dX4_init_37 : decode cX4_init 37 = .ok (.bipush 12, 2) := by decide +kernel
theorem dX4_init_39 : decode cX4_init 39 = .ok (.newarray .int, 2) := by decide +kernel
theorem dX4_init_41 : decode cX4_init 41 = .ok (.putfield 24, 3) := by decide +kernel
theorem dX4_init_44 : decode cX4_init 44 = .ok (.aload_n 0, 1) := by decide +kernel
theorem dX4_init_45 : decode cX4_init 45 = .ok (.bipush 12, 2) := by decide +kernel
theorem dX4_init_47 : decode cX4_init 47 = .ok (.newarray .int, 2) := by decide +kernel
theorem dX4_init_49 : decode cX4_init 49 = .ok (.putfield 27, 3) := by decide +kernel
theorem dX4_init_52 : decode cX4_init 52 = .ok (.return_, 1) := by decide +kernel
theorem dX4_isFull_0 : decode cX4_isFull 0 = .ok (.aload_n 0, 1) := by decide +kernel
theorem dX4_isFull_1 : decode cX4_isFull 1 = .ok (.getfield 30, 3) := by decide +kernel
theorem dX4_isFull_4 : decode cX4_isFull 4 = .ok (.bipush 12, 2) := by decide +kernel
theorem dX4_isFull_6 : decode cX4_isFull 6 = .ok (.if_icmp .lt 7, 3) := by decide +kernel
theorem dX4_isFull_9 : decode cX4_isFull 9 = .ok (.iconst 1, 1) := by decide +kernel
theorem dX4_isFull_10 : decode cX4_isFull 10 = .ok (.goto 4, 3) := by decide +kernel
theorem dX4_isFull_13 : decode cX4_isFull 13 = .ok (.iconst 0, 1) := by decide +kernel
theorem dX4_isFull_14 : decode cX4_isFull 14 = .ok (.ireturn, 1) := by decide +kernel
theorem dX4_isHome_0 : decode cX4_isHome 0 = .ok (.aload_n 0, 1) := by decide +kernel
theorem dX4_isHome_1 : decode cX4_isHome 1 = .ok (.getfield 27, 3) := by decide +kernel
theorem dX4_isHome_4 : decode cX4_isHome 4 = .ok (.iload_n 1, 1) := by decide +kernel
theorem dX4_isHome_5 : decode cX4_isHome 5 = .ok (.iaload, 1) := by decide +kernel
theorem dX4_isHome_6 : decode cX4_isHome 6 = .ok (.istore_n 2, 1) := by decide +kernel
theorem dX4_isHome_7 : decode cX4_isHome 7 = .ok (.iconst 0, 1) := by decide +kernel
theorem dX4_isHome_8 : decode cX4_isHome 8 = .ok (.istore_n 3, 1) := by decide +kernel
theorem dX4_isHome_9 : decode cX4_isHome 9 = .ok (.iload_n 3, 1) := by decide +kernel
theorem dX4_isHome_10 : decode cX4_isHome 10 = .ok (.bipush 12, 2) := by decide +kernel
theorem dX4_isHome_12 : decode cX4_isHome 12 = .ok (.if_icmp .ge 38, 3) := by decide +kernel
theorem dX4_isHome_15 : decode cX4_isHome 15 = .ok (.iload_n 2, 1) := by decide +kernel
theorem dX4_isHome_16 : decode cX4_isHome 16 = .ok (.iconst (-1), 1) := by decide +kernel
theorem dX4_isHome_17 : decode cX4_isHome 17 = .ok (.if_icmp .eq 33, 3) := by decide +kernel
theorem dX4_isHome_20 : decode cX4_isHome 20 = .ok (.aload_n 0, 1) := by decide +kernel
theorem dX4_isHome_21 : decode cX4_isHome 21 = .ok (.getfield 15, 3) := by decide +kernel
theorem dX4_isHome_24 : decode cX4_isHome 24 = .ok (.iload_n 2, 1) := by decide +kernel
theorem dX4_isHome_25 : decode cX4_isHome 25 = .ok (.iaload, 1) := by decide +kernel
theorem dX4_isHome_26 : decode cX4_isHome 26 = .ok (.aload_n 0, 1) := by decide +kernel
theorem dX4_isHome_27 : decode cX4_isHome 27 = .ok (.getfield 9, 3) := by decide +kernel
theorem dX4_isHome_30 : decode cX4_isHome 30 = .ok (.iload_n 1, 1) := by decide +kernel
theorem dX4_isHome_31 : decode cX4_isHome 31 = .ok (.iaload, 1) := by decide +kernel
theorem dX4_isHome_32 : decode cX4_isHome 32 = .ok (.if_icmp .ne 5, 3) := by decide +kernel
theorem dX4_isHome_35 : decode cX4_isHome 35 = .ok (.iconst 1, 1) := by decide +kernel
theorem dX4_isHome_36 : decode cX4_isHome 36 = .ok (.ireturn, 1) := by decide +kernel
theorem dX4_isHome_37 : decode cX4_isHome 37 = .ok (.aload_n 0, 1) := by decide +kernel
theorem dX4_isHome_38 : decode cX4_isHome 38 = .ok (.getfield 27, 3) := by decide +kernel
theorem dX4_isHome_41 : decode cX4_isHome 41 = .ok (.iload_n 2, 1) := by decide +kernel
theorem dX4_isHome_42 : decode cX4_isHome 42 = .ok (.iaload, 1) := by decide +kernel
theorem dX4_isHome_43 : decode cX4_isHome 43 = .ok (.istore_n 2, 1) := by decide +kernel
theorem dX4_isHome_44 : decode cX4_isHome 44 = .ok (.iinc 3 1, 3) := by decide +kernel
theorem dX4_isHome_47 : decode cX4_isHome 47 = .ok (.goto (-38), 3) := by decide +kernel
theorem dX4_isHome_50 : decode cX4_isHome 50 = .ok (.iconst 0, 1) := by decide +kernel
theorem dX4_isHome_51 : decode cX4_isHome 51 = .ok (.ireturn, 1) := by decide +kernel
theorem dX4_isLawful_0 : decode cX4_isLawful 0 = .ok (.iload_n 2, 1) := by decide +kernel
theorem dX4_isLawful_1 : decode cX4_isLawful 1 = .ok (.iload_n 3, 1) := by decide +kernel
theorem dX4_isLawful_2 : decode cX4_isLawful 2 = .ok (.if_icmp .eq 21, 3) := by decide +kernel
theorem dX4_isLawful_5 : decode cX4_isLawful 5 = .ok (.aload_n 1, 1) := by decide +kernel
theorem dX4_isLawful_6 : decode cX4_isLawful 6 = .ok (.iload_n 2, 1) := by decide +kernel
theorem dX4_isLawful_7 : decode cX4_isLawful 7 = .ok (.iconst 1, 1) := by decide +kernel
theorem dX4_isLawful_8 : decode cX4_isLawful 8 = .ok (.invokevirtual 43, 3) := by decide +kernel
theorem dX4_isLawful_11 : decode cX4_isLawful 11 = .ok (.ifCond .ne 12, 3) := by decide +kernel
theorem dX4_isLawful_14 : decode cX4_isLawful 14 = .ok (.aload_n 1, 1) := by decide +kernel
theorem dX4_isLawful_15 : decode cX4_isLawful 15 = .ok (.iload_n 2, 1) := by decide +kernel
theorem dX4_isLawful_16 : decode cX4_isLawful 16 = .ok (.iload_n 3, 1) := by decide +kernel
theorem dX4_isLawful_17 : decode cX4_isLawful 17 = .ok (.invokevirtual 49, 3) := by decide +kernel
theorem dX4_isLawful_20 : decode cX4_isLawful 20 = .ok (.ifCond .ne 5, 3) := by decide +kernel
theorem dX4_isLawful_23 : decode cX4_isLawful 23 = .ok (.iconst 0, 1) := by decide +kernel
theorem dX4_isLawful_24 : decode cX4_isLawful 24 = .ok (.ireturn, 1) := by decide +kernel
theorem dX4_isLawful_25 : decode cX4_isLawful 25 = .ok (.iload 5, 2) := by decide +kernel
theorem dX4_isLawful_27 : decode cX4_isLawful 27 = .ok (.iconst (-1), 1) := by decide +kernel
theorem dX4_isLawful_28 : decode cX4_isLawful 28 = .ok (.if_icmp .eq 17, 3) := by decide +kernel
theorem dX4_isLawful_31 : decode cX4_isLawful 31 = .ok (.aload_n 0, 1) := by decide +kernel
theorem dX4_isLawful_32 : decode cX4_isLawful 32 = .ok (.aload_n 1, 1) := by decide +kernel
theorem dX4_isLawful_33 : decode cX4_isLawful 33 = .ok (.iload_n 2, 1) := by decide +kernel
theorem dX4_isLawful_34 : decode cX4_isLawful 34 = .ok (.iload_n 3, 1) := by decide +kernel
theorem dX4_isLawful_35 : decode cX4_isLawful 35 = .ok (.iload 4, 2) := by decide +kernel
theorem dX4_isLawful_37 : decode cX4_isLawful 37 = .ok (.iload 5, 2) := by decide +kernel
theorem dX4_isLawful_39 : decode cX4_isLawful 39 = .ok (.invokevirtual 52, 3) := by decide +kernel
theorem dX4_isLawful_42 : decode cX4_isLawful 42 = .ok (.ifCond .eq 7, 3) := by decide +kernel
theorem dX4_isLawful_45 : decode cX4_isLawful 45 = .ok (.iconst 1, 1) := by decide +kernel
theorem dX4_isLawful_46 : decode cX4_isLawful 46 = .ok (.goto 4, 3) := by decide +kernel
theorem dX4_isLawful_49 : decode cX4_isLawful 49 = .ok (.iconst 0, 1) := by decide +kernel
theorem dX4_isLawful_50 : decode cX4_isLawful 50 = .ok (.ireturn, 1) := by decide +kernel
theorem dX4_isOpen_0 : decode cX4_isOpen 0 = .ok (.aload_n 0, 1) := by decide +kernel
theorem dX4_isOpen_1 : decode cX4_isOpen 1 = .ok (.getfield 27, 3) := by decide +kernel
theorem dX4_isOpen_4 : decode cX4_isOpen 4 = .ok (.iload_n 1, 1) := by decide +kernel
theorem dX4_isOpen_5 : decode cX4_isOpen 5 = .ok (.iaload, 1) := by decide +kernel
theorem dX4_isOpen_6 : decode cX4_isOpen 6 = .ok (.iconst (-1), 1) := by decide +kernel
theorem dX4_isOpen_7 : decode cX4_isOpen 7 = .ok (.if_icmp .ne 7, 3) := by decide +kernel
theorem dX4_isOpen_10 : decode cX4_isOpen 10 = .ok (.iconst 1, 1) := by decide +kernel
theorem dX4_isOpen_11 : decode cX4_isOpen 11 = .ok (.goto 4, 3) := by decide +kernel
theorem dX4_isOpen_14 : decode cX4_isOpen 14 = .ok (.iconst 0, 1) := by decide +kernel
theorem dX4_isOpen_15 : decode cX4_isOpen 15 = .ok (.ireturn, 1) := by decide +kernel
theorem dX4_lateOf_0 : decode cX4_lateOf 0 = .ok (.iconst 0, 1) := by decide +kernel
theorem dX4_lateOf_1 : decode cX4_lateOf 1 = .ok (.istore_n 3, 1) := by decide +kernel
theorem dX4_lateOf_2 : decode cX4_lateOf 2 = .ok (.iconst 0, 1) := by decide +kernel
theorem dX4_lateOf_3 : decode cX4_lateOf 3 = .ok (.istore 4, 2) := by decide +kernel
theorem dX4_lateOf_5 : decode cX4_lateOf 5 = .ok (.iload 4, 2) := by decide +kernel
theorem dX4_lateOf_7 : decode cX4_lateOf 7 = .ok (.aload_n 0, 1) := by decide +kernel
theorem dX4_lateOf_8 : decode cX4_lateOf 8 = .ok (.getfield 30, 3) := by decide +kernel
theorem dX4_lateOf_11 : decode cX4_lateOf 11 = .ok (.if_icmp .ge 38, 3) := by decide +kernel
theorem dX4_lateOf_14 : decode cX4_lateOf 14 = .ok (.aload_n 0, 1) := by decide +kernel
theorem dX4_lateOf_15 : decode cX4_lateOf 15 = .ok (.iload_n 1, 1) := by decide +kernel
theorem dX4_lateOf_16 : decode cX4_lateOf 16 = .ok (.iload 4, 2) := by decide +kernel
theorem dX4_lateOf_18 : decode cX4_lateOf 18 = .ok (.invokevirtual 71, 3) := by decide +kernel
theorem dX4_lateOf_21 : decode cX4_lateOf 21 = .ok (.ifCond .eq 22, 3) := by decide +kernel
theorem dX4_lateOf_24 : decode cX4_lateOf 24 = .ok (.aload_n 0, 1) := by decide +kernel
theorem dX4_lateOf_25 : decode cX4_lateOf 25 = .ok (.getfield 34, 3) := by decide +kernel
theorem dX4_lateOf_28 : decode cX4_lateOf 28 = .ok (.aload_n 0, 1) := by decide +kernel
theorem dX4_lateOf_29 : decode cX4_lateOf 29 = .ok (.getfield 21, 3) := by decide +kernel
theorem dX4_lateOf_32 : decode cX4_lateOf 32 = .ok (.iload 4, 2) := by decide +kernel
theorem dX4_lateOf_34 : decode cX4_lateOf 34 = .ok (.iaload, 1) := by decide +kernel
theorem dX4_lateOf_35 : decode cX4_lateOf 35 = .ok (.isub, 1) := by decide +kernel
theorem dX4_lateOf_36 : decode cX4_lateOf 36 = .ok (.iload_n 2, 1) := by decide +kernel
theorem dX4_lateOf_37 : decode cX4_lateOf 37 = .ok (.if_icmp .le 6, 3) := by decide +kernel
theorem dX4_lateOf_40 : decode cX4_lateOf 40 = .ok (.iinc 3 1, 3) := by decide +kernel
theorem dX4_lateOf_43 : decode cX4_lateOf 43 = .ok (.iinc 4 1, 3) := by decide +kernel
theorem dX4_lateOf_46 : decode cX4_lateOf 46 = .ok (.goto (-41), 3) := by decide +kernel
theorem dX4_lateOf_49 : decode cX4_lateOf 49 = .ok (.iload_n 3, 1) := by decide +kernel
theorem dX4_lateOf_50 : decode cX4_lateOf 50 = .ok (.ireturn, 1) := by decide +kernel
theorem dX4_leastOwedBy_0 : decode cX4_leastOwedBy 0 = .ok (.iconst 0, 1) := by decide +kernel
theorem dX4_leastOwedBy_1 : decode cX4_leastOwedBy 1 = .ok (.istore_n 2, 1) := by decide +kernel
theorem dX4_leastOwedBy_2 : decode cX4_leastOwedBy 2 = .ok (.iload_n 2, 1) := by decide +kernel
theorem dX4_leastOwedBy_3 : decode cX4_leastOwedBy 3 = .ok (.aload_n 0, 1) := by decide +kernel
theorem dX4_leastOwedBy_4 : decode cX4_leastOwedBy 4 = .ok (.getfield 30, 3) := by decide +kernel
theorem dX4_leastOwedBy_7 : decode cX4_leastOwedBy 7 = .ok (.if_icmp .ge 20, 3) := by decide +kernel
theorem dX4_leastOwedBy_10 : decode cX4_leastOwedBy 10 = .ok (.aload_n 0, 1) := by decide +kernel
theorem dX4_leastOwedBy_11 : decode cX4_leastOwedBy 11 = .ok (.iload_n 1, 1) := by decide +kernel
theorem dX4_leastOwedBy_12 : decode cX4_leastOwedBy 12 = .ok (.iload_n 2, 1) := by decide +kernel
theorem dX4_leastOwedBy_13 : decode cX4_leastOwedBy 13 = .ok (.invokevirtual 71, 3) := by decide +kernel
theorem dX4_leastOwedBy_16 : decode cX4_leastOwedBy 16 = .ok (.ifCond .eq 5, 3) := by decide +kernel
theorem dX4_leastOwedBy_19 : decode cX4_leastOwedBy 19 = .ok (.iload_n 2, 1) := by decide +kernel
theorem dX4_leastOwedBy_20 : decode cX4_leastOwedBy 20 = .ok (.ireturn, 1) := by decide +kernel
theorem dX4_leastOwedBy_21 : decode cX4_leastOwedBy 21 = .ok (.iinc 2 1, 3) := by decide +kernel
theorem dX4_leastOwedBy_24 : decode cX4_leastOwedBy 24 = .ok (.goto (-22), 3) := by decide +kernel
theorem dX4_leastOwedBy_27 : decode cX4_leastOwedBy 27 = .ok (.iconst (-1), 1) := by decide +kernel
theorem dX4_leastOwedBy_28 : decode cX4_leastOwedBy 28 = .ok (.ireturn, 1) := by decide +kernel
theorem dX4_mayRepay_0 : decode cX4_mayRepay 0 = .ok (.aload_n 0, 1) := by decide +kernel
theorem dX4_mayRepay_1 : decode cX4_mayRepay 1 = .ok (.getfield 9, 3) := by decide +kernel
theorem dX4_mayRepay_4 : decode cX4_mayRepay 4 = .ok (.iload 5, 2) := by decide +kernel
theorem dX4_mayRepay_6 : decode cX4_mayRepay 6 = .ok (.iaload, 1) := by decide +kernel
theorem dX4_mayRepay_7 : decode cX4_mayRepay 7 = .ok (.istore 6, 2) := by decide +kernel
theorem dX4_mayRepay_9 : decode cX4_mayRepay 9 = .ok (.aload_n 0, 1) := by decide +kernel
theorem dX4_mayRepay_10 : decode cX4_mayRepay 10 = .ok (.getfield 15, 3) := by decide +kernel
theorem dX4_mayRepay_13 : decode cX4_mayRepay 13 = .ok (.iload 5, 2) := by decide +kernel
theorem dX4_mayRepay_15 : decode cX4_mayRepay 15 = .ok (.iaload, 1) := by decide +kernel
theorem dX4_mayRepay_16 : decode cX4_mayRepay 16 = .ok (.iload_n 2, 1) := by decide +kernel
theorem dX4_mayRepay_17 : decode cX4_mayRepay 17 = .ok (.if_icmp .ne 69, 3) := by decide +kernel
theorem dX4_mayRepay_20 : decode cX4_mayRepay 20 = .ok (.aload_n 0, 1) := by decide +kernel
theorem dX4_mayRepay_21 : decode cX4_mayRepay 21 = .ok (.iload 5, 2) := by decide +kernel
theorem dX4_mayRepay_23 : decode cX4_mayRepay 23 = .ok (.invokevirtual 56, 3) := by decide +kernel
theorem dX4_mayRepay_26 : decode cX4_mayRepay 26 = .ok (.ifCond .eq 60, 3) := by decide +kernel
theorem dX4_mayRepay_29 : decode cX4_mayRepay 29 = .ok (.iload_n 3, 1) := by decide +kernel
theorem dX4_mayRepay_30 : decode cX4_mayRepay 30 = .ok (.iload 6, 2) := by decide +kernel
theorem dX4_mayRepay_32 : decode cX4_mayRepay 32 = .ok (.if_icmp .eq 54, 3) := by decide +kernel
theorem dX4_mayRepay_35 : decode cX4_mayRepay 35 = .ok (.aload_n 1, 1) := by decide +kernel
theorem dX4_mayRepay_36 : decode cX4_mayRepay 36 = .ok (.iload_n 3, 1) := by decide +kernel
theorem dX4_mayRepay_37 : decode cX4_mayRepay 37 = .ok (.iload 6, 2) := by decide +kernel
theorem dX4_mayRepay_39 : decode cX4_mayRepay 39 = .ok (.invokevirtual 60, 3) := by decide +kernel
theorem dX4_mayRepay_42 : decode cX4_mayRepay 42 = .ok (.ifCond .ne 44, 3) := by decide +kernel
theorem dX4_mayRepay_45 : decode cX4_mayRepay 45 = .ok (.iload 4, 2) := by decide +kernel
theorem dX4_mayRepay_47 : decode cX4_mayRepay 47 = .ok (.aload_n 1, 1) := by decide +kernel
theorem dX4_mayRepay_48 : decode cX4_mayRepay 48 = .ok (.iload_n 2, 1) := by decide +kernel
theorem dX4_mayRepay_49 : decode cX4_mayRepay 49 = .ok (.aload_n 0, 1) := by decide +kernel
theorem dX4_mayRepay_50 : decode cX4_mayRepay 50 = .ok (.getfield 18, 3) := by decide +kernel
theorem dX4_mayRepay_53 : decode cX4_mayRepay 53 = .ok (.iload 5, 2) := by decide +kernel
theorem dX4_mayRepay_55 : decode cX4_mayRepay 55 = .ok (.iaload, 1) := by decide +kernel
theorem dX4_mayRepay_56 : decode cX4_mayRepay 56 = .ok (.invokevirtual 63, 3) := by decide +kernel
theorem dX4_mayRepay_59 : decode cX4_mayRepay 59 = .ok (.if_icmp .lt 27, 3) := by decide +kernel
theorem dX4_mayRepay_62 : decode cX4_mayRepay 62 = .ok (.aload_n 0, 1) := by decide +kernel
theorem dX4_mayRepay_63 : decode cX4_mayRepay 63 = .ok (.getfield 34, 3) := by decide +kernel
theorem dX4_mayRepay_66 : decode cX4_mayRepay 66 = .ok (.aload_n 0, 1) := by decide +kernel
theorem dX4_mayRepay_67 : decode cX4_mayRepay 67 = .ok (.getfield 21, 3) := by decide +kernel
theorem dX4_mayRepay_70 : decode cX4_mayRepay 70 = .ok (.iload 5, 2) := by decide +kernel
theorem dX4_mayRepay_72 : decode cX4_mayRepay 72 = .ok (.iaload, 1) := by decide +kernel
theorem dX4_mayRepay_73 : decode cX4_mayRepay 73 = .ok (.isub, 1) := by decide +kernel
theorem dX4_mayRepay_74 : decode cX4_mayRepay 74 = .ok (.aload_n 1, 1) := by decide +kernel
theorem dX4_mayRepay_75 : decode cX4_mayRepay 75 = .ok (.iload_n 2, 1) := by decide +kernel
theorem dX4_mayRepay_76 : decode cX4_mayRepay 76 = .ok (.invokevirtual 67, 3) := by decide +kernel
theorem dX4_mayRepay_79 : decode cX4_mayRepay 79 = .ok (.if_icmp .gt 7, 3) := by decide +kernel
theorem dX4_mayRepay_82 : decode cX4_mayRepay 82 = .ok (.iconst 1, 1) := by decide +kernel
theorem dX4_mayRepay_83 : decode cX4_mayRepay 83 = .ok (.goto 4, 3) := by decide +kernel
theorem dX4_mayRepay_86 : decode cX4_mayRepay 86 = .ok (.iconst 0, 1) := by decide +kernel
theorem dX4_mayRepay_87 : decode cX4_mayRepay 87 = .ok (.ireturn, 1) := by decide +kernel
theorem dX4_openOnes_0 : decode cX4_openOnes 0 = .ok (.iconst 0, 1) := by decide +kernel
theorem dX4_openOnes_1 : decode cX4_openOnes 1 = .ok (.istore_n 1, 1) := by decide +kernel
theorem dX4_openOnes_2 : decode cX4_openOnes 2 = .ok (.iconst 0, 1) := by decide +kernel
theorem dX4_openOnes_3 : decode cX4_openOnes 3 = .ok (.istore_n 2, 1) := by decide +kernel
theorem dX4_openOnes_4 : decode cX4_openOnes 4 = .ok (.iload_n 2, 1) := by decide +kernel
theorem dX4_openOnes_5 : decode cX4_openOnes 5 = .ok (.aload_n 0, 1) := by decide +kernel
theorem dX4_openOnes_6 : decode cX4_openOnes 6 = .ok (.getfield 30, 3) := by decide +kernel
theorem dX4_openOnes_9 : decode cX4_openOnes 9 = .ok (.if_icmp .ge 20, 3) := by decide +kernel
theorem dX4_openOnes_12 : decode cX4_openOnes 12 = .ok (.aload_n 0, 1) := by decide +kernel
theorem dX4_openOnes_13 : decode cX4_openOnes 13 = .ok (.iload_n 2, 1) := by decide +kernel
theorem dX4_openOnes_14 : decode cX4_openOnes 14 = .ok (.invokevirtual 56, 3) := by decide +kernel
theorem dX4_openOnes_17 : decode cX4_openOnes 17 = .ok (.ifCond .eq 6, 3) := by decide +kernel
theorem dX4_openOnes_20 : decode cX4_openOnes 20 = .ok (.iinc 1 1, 3) := by decide +kernel
theorem dX4_openOnes_23 : decode cX4_openOnes 23 = .ok (.iinc 2 1, 3) := by decide +kernel
theorem dX4_openOnes_26 : decode cX4_openOnes 26 = .ok (.goto (-22), 3) := by decide +kernel
theorem dX4_openOnes_29 : decode cX4_openOnes 29 = .ok (.iload_n 1, 1) := by decide +kernel
theorem dX4_openOnes_30 : decode cX4_openOnes 30 = .ok (.ireturn, 1) := by decide +kernel
theorem dX4_owedBy_0 : decode cX4_owedBy 0 = .ok (.iconst 0, 1) := by decide +kernel
theorem dX4_owedBy_1 : decode cX4_owedBy 1 = .ok (.istore_n 2, 1) := by decide +kernel
theorem dX4_owedBy_2 : decode cX4_owedBy 2 = .ok (.iconst 0, 1) := by decide +kernel
theorem dX4_owedBy_3 : decode cX4_owedBy 3 = .ok (.istore_n 3, 1) := by decide +kernel
theorem dX4_owedBy_4 : decode cX4_owedBy 4 = .ok (.iload_n 3, 1) := by decide +kernel
theorem dX4_owedBy_5 : decode cX4_owedBy 5 = .ok (.aload_n 0, 1) := by decide +kernel
theorem dX4_owedBy_6 : decode cX4_owedBy 6 = .ok (.getfield 30, 3) := by decide +kernel
theorem dX4_owedBy_9 : decode cX4_owedBy 9 = .ok (.if_icmp .ge 21, 3) := by decide +kernel
theorem dX4_owedBy_12 : decode cX4_owedBy 12 = .ok (.aload_n 0, 1) := by decide +kernel
theorem dX4_owedBy_13 : decode cX4_owedBy 13 = .ok (.iload_n 1, 1) := by decide +kernel
theorem dX4_owedBy_14 : decode cX4_owedBy 14 = .ok (.iload_n 3, 1) := by decide +kernel
theorem dX4_owedBy_15 : decode cX4_owedBy 15 = .ok (.invokevirtual 71, 3) := by decide +kernel
theorem dX4_owedBy_18 : decode cX4_owedBy 18 = .ok (.ifCond .eq 6, 3) := by decide +kernel
theorem dX4_owedBy_21 : decode cX4_owedBy 21 = .ok (.iinc 2 1, 3) := by decide +kernel
theorem dX4_owedBy_24 : decode cX4_owedBy 24 = .ok (.iinc 3 1, 3) := by decide +kernel
theorem dX4_owedBy_27 : decode cX4_owedBy 27 = .ok (.goto (-23), 3) := by decide +kernel
theorem dX4_owedBy_30 : decode cX4_owedBy 30 = .ok (.iload_n 2, 1) := by decide +kernel
theorem dX4_owedBy_31 : decode cX4_owedBy 31 = .ok (.ireturn, 1) := by decide +kernel
theorem dX4_owes_0 : decode cX4_owes 0 = .ok (.aload_n 0, 1) := by decide +kernel
theorem dX4_owes_1 : decode cX4_owes 1 = .ok (.getfield 15, 3) := by decide +kernel
theorem dX4_owes_4 : decode cX4_owes 4 = .ok (.iload_n 2, 1) := by decide +kernel
theorem dX4_owes_5 : decode cX4_owes 5 = .ok (.iaload, 1) := by decide +kernel
theorem dX4_owes_6 : decode cX4_owes 6 = .ok (.iload_n 1, 1) := by decide +kernel
theorem dX4_owes_7 : decode cX4_owes 7 = .ok (.if_icmp .ne 15, 3) := by decide +kernel
theorem dX4_owes_10 : decode cX4_owes 10 = .ok (.aload_n 0, 1) := by decide +kernel
theorem dX4_owes_11 : decode cX4_owes 11 = .ok (.iload_n 2, 1) := by decide +kernel
theorem dX4_owes_12 : decode cX4_owes 12 = .ok (.invokevirtual 56, 3) := by decide +kernel
theorem dX4_owes_15 : decode cX4_owes 15 = .ok (.ifCond .eq 7, 3) := by decide +kernel
theorem dX4_owes_18 : decode cX4_owes 18 = .ok (.iconst 1, 1) := by decide +kernel
theorem dX4_owes_19 : decode cX4_owes 19 = .ok (.goto 4, 3) := by decide +kernel
theorem dX4_owes_22 : decode cX4_owes 22 = .ok (.iconst 0, 1) := by decide +kernel
theorem dX4_owes_23 : decode cX4_owes 23 = .ok (.ireturn, 1) := by decide +kernel
theorem dX5_add_0 : decode cX5_add 0 = .ok (.aload_n 0, 1) := by decide +kernel
theorem dX5_add_1 : decode cX5_add 1 = .ok (.getfield 9, 3) := by decide +kernel
theorem dX5_add_4 : decode cX5_add 4 = .ok (.aload_n 0, 1) := by decide +kernel
theorem dX5_add_5 : decode cX5_add 5 = .ok (.getfield 15, 3) := by decide +kernel
theorem dX5_add_8 : decode cX5_add 8 = .ok (.iload_n 1, 1) := by decide +kernel
theorem dX5_add_9 : decode cX5_add 9 = .ok (.iastore, 1) := by decide +kernel
theorem dX5_add_10 : decode cX5_add 10 = .ok (.aload_n 0, 1) := by decide +kernel
theorem dX5_add_11 : decode cX5_add 11 = .ok (.dup, 1) := by decide +kernel
theorem dX5_add_12 : decode cX5_add 12 = .ok (.getfield 15, 3) := by decide +kernel
theorem dX5_add_15 : decode cX5_add 15 = .ok (.iconst 1, 1) := by decide +kernel
theorem dX5_add_16 : decode cX5_add 16 = .ok (.iadd, 1) := by decide +kernel
theorem dX5_add_17 : decode cX5_add 17 = .ok (.putfield 15, 3) := by decide +kernel
theorem dX5_add_20 : decode cX5_add 20 = .ok (.return_, 1) := by decide +kernel
theorem dX5_init_0 : decode cX5_init 0 = .ok (.aload_n 0, 1) := by decide +kernel
theorem dX5_init_1 : decode cX5_init 1 = .ok (.invokespecial 3, 3) := by decide +kernel
theorem dX5_init_4 : decode cX5_init 4 = .ok (.aload_n 0, 1) := by decide +kernel
theorem dX5_init_5 : decode cX5_init 5 = .ok (.bipush 54, 2) := by decide +kernel
theorem dX5_init_7 : decode cX5_init 7 = .ok (.newarray .int, 2) := by decide +kernel
theorem dX5_init_9 : decode cX5_init 9 = .ok (.putfield 9, 3) := by decide +kernel
theorem dX5_init_12 : decode cX5_init 12 = .ok (.return_, 1) := by decide +kernel
theorem dX6_add_0 : decode cX6_add 0 = .ok (.aload_n 0, 1) := by decide +kernel
theorem dX6_add_1 : decode cX6_add 1 = .ok (.getfield 9, 3) := by decide +kernel
theorem dX6_add_4 : decode cX6_add 4 = .ok (.iload_n 1, 1) := by decide +kernel
theorem dX6_add_5 : decode cX6_add 5 = .ok (.iload_n 2, 1) := by decide +kernel
theorem dX6_add_6 : decode cX6_add 6 = .ok (.invokestatic 15, 3) := by decide +kernel
theorem dX6_add_9 : decode cX6_add 9 = .ok (.iconst 1, 1) := by decide +kernel
theorem dX6_add_10 : decode cX6_add 10 = .ok (.bastore, 1) := by decide +kernel
theorem dX6_add_11 : decode cX6_add 11 = .ok (.aload_n 0, 1) := by decide +kernel
theorem dX6_add_12 : decode cX6_add 12 = .ok (.getfield 9, 3) := by decide +kernel
theorem dX6_add_15 : decode cX6_add 15 = .ok (.iload_n 2, 1) := by decide +kernel
theorem dX6_add_16 : decode cX6_add 16 = .ok (.iload_n 1, 1) := by decide +kernel
theorem dX6_add_17 : decode cX6_add 17 = .ok (.invokestatic 15, 3) := by decide +kernel
theorem dX6_add_20 : decode cX6_add 20 = .ok (.iconst 1, 1) := by decide +kernel
theorem dX6_add_21 : decode cX6_add 21 = .ok (.bastore, 1) := by decide +kernel
theorem dX6_add_22 : decode cX6_add 22 = .ok (.aload_n 0, 1) := by decide +kernel
theorem dX6_add_23 : decode cX6_add 23 = .ok (.dup, 1) := by decide +kernel
theorem dX6_add_24 : decode cX6_add 24 = .ok (.getfield 19, 3) := by decide +kernel
theorem dX6_add_27 : decode cX6_add 27 = .ok (.iconst 1, 1) := by decide +kernel
theorem dX6_add_28 : decode cX6_add 28 = .ok (.iadd, 1) := by decide +kernel
theorem dX6_add_29 : decode cX6_add 29 = .ok (.putfield 19, 3) := by decide +kernel
theorem dX6_add_32 : decode cX6_add 32 = .ok (.return_, 1) := by decide +kernel
theorem dX6_clear_0 : decode cX6_clear 0 = .ok (.iconst 0, 1) := by decide +kernel
theorem dX6_clear_1 : decode cX6_clear 1 = .ok (.istore_n 1, 1) := by decide +kernel
theorem dX6_clear_2 : decode cX6_clear 2 = .ok (.iload_n 1, 1) := by decide +kernel
theorem dX6_clear_3 : decode cX6_clear 3 = .ok (.aload_n 0, 1) := by decide +kernel
theorem dX6_clear_4 : decode cX6_clear 4 = .ok (.getfield 9, 3) := by decide +kernel
theorem dX6_clear_7 : decode cX6_clear 7 = .ok (.arraylength, 1) := by decide +kernel
theorem dX6_clear_8 : decode cX6_clear 8 = .ok (.if_icmp .ge 16, 3) := by decide +kernel
theorem dX6_clear_11 : decode cX6_clear 11 = .ok (.aload_n 0, 1) := by decide +kernel
theorem dX6_clear_12 : decode cX6_clear 12 = .ok (.getfield 9, 3) := by decide +kernel
theorem dX6_clear_15 : decode cX6_clear 15 = .ok (.iload_n 1, 1) := by decide +kernel
theorem dX6_clear_16 : decode cX6_clear 16 = .ok (.iconst 0, 1) := by decide +kernel
theorem dX6_clear_17 : decode cX6_clear 17 = .ok (.bastore, 1) := by decide +kernel
theorem dX6_clear_18 : decode cX6_clear 18 = .ok (.iinc 1 1, 3) := by decide +kernel
theorem dX6_clear_21 : decode cX6_clear 21 = .ok (.goto (-19), 3) := by decide +kernel
theorem dX6_clear_24 : decode cX6_clear 24 = .ok (.aload_n 0, 1) := by decide +kernel
theorem dX6_clear_25 : decode cX6_clear 25 = .ok (.iconst 0, 1) := by decide +kernel
theorem dX6_clear_26 : decode cX6_clear 26 = .ok (.putfield 19, 3) := by decide +kernel
theorem dX6_clear_29 : decode cX6_clear 29 = .ok (.return_, 1) := by decide +kernel
theorem dX6_copyFrom_0 : decode cX6_copyFrom 0 = .ok (.aload_n 1, 1) := by decide +kernel
theorem dX6_copyFrom_1 : decode cX6_copyFrom 1 = .ok (.getfield 9, 3) := by decide +kernel
theorem dX6_copyFrom_4 : decode cX6_copyFrom 4 = .ok (.iconst 0, 1) := by decide +kernel
theorem dX6_copyFrom_5 : decode cX6_copyFrom 5 = .ok (.aload_n 0, 1) := by decide +kernel
theorem dX6_copyFrom_6 : decode cX6_copyFrom 6 = .ok (.getfield 9, 3) := by decide +kernel
theorem dX6_copyFrom_9 : decode cX6_copyFrom 9 = .ok (.iconst 0, 1) := by decide +kernel
theorem dX6_copyFrom_10 : decode cX6_copyFrom 10 = .ok (.aload_n 0, 1) := by decide +kernel
theorem dX6_copyFrom_11 : decode cX6_copyFrom 11 = .ok (.getfield 9, 3) := by decide +kernel
theorem dX6_copyFrom_14 : decode cX6_copyFrom 14 = .ok (.arraylength, 1) := by decide +kernel
theorem dX6_copyFrom_15 : decode cX6_copyFrom 15 = .ok (.invokestatic 23, 3) := by decide +kernel
theorem dX6_copyFrom_18 : decode cX6_copyFrom 18 = .ok (.aload_n 0, 1) := by decide +kernel
theorem dX6_copyFrom_19 : decode cX6_copyFrom 19 = .ok (.aload_n 1, 1) := by decide +kernel
theorem dX6_copyFrom_20 : decode cX6_copyFrom 20 = .ok (.getfield 19, 3) := by decide +kernel
theorem dX6_copyFrom_23 : decode cX6_copyFrom 23 = .ok (.putfield 19, 3) := by decide +kernel
theorem dX6_copyFrom_26 : decode cX6_copyFrom 26 = .ok (.return_, 1) := by decide +kernel
theorem dX6_has_0 : decode cX6_has 0 = .ok (.aload_n 0, 1) := by decide +kernel
theorem dX6_has_1 : decode cX6_has 1 = .ok (.getfield 9, 3) := by decide +kernel
theorem dX6_has_4 : decode cX6_has 4 = .ok (.iload_n 1, 1) := by decide +kernel
theorem dX6_has_5 : decode cX6_has 5 = .ok (.bipush 6, 2) := by decide +kernel
theorem dX6_has_7 : decode cX6_has 7 = .ok (.imul, 1) := by decide +kernel
theorem dX6_has_8 : decode cX6_has 8 = .ok (.iload_n 2, 1) := by decide +kernel
theorem dX6_has_9 : decode cX6_has 9 = .ok (.iadd, 1) := by decide +kernel
theorem dX6_has_10 : decode cX6_has 10 = .ok (.baload, 1) := by decide +kernel
theorem dX6_has_11 : decode cX6_has 11 = .ok (.ireturn, 1) := by decide +kernel
theorem dX6_init_0 : decode cX6_init 0 = .ok (.aload_n 0, 1) := by decide +kernel
theorem dX6_init_1 : decode cX6_init 1 = .ok (.invokespecial 3, 3) := by decide +kernel
theorem dX6_init_4 : decode cX6_init 4 = .ok (.aload_n 0, 1) := by decide +kernel
theorem dX6_init_5 : decode cX6_init 5 = .ok (.bipush 36, 2) := by decide +kernel
theorem dX6_init_7 : decode cX6_init 7 = .ok (.newarray .boolean, 2) := by decide +kernel
theorem dX6_init_9 : decode cX6_init 9 = .ok (.putfield 9, 3) := by decide +kernel
theorem dX6_init_12 : decode cX6_init 12 = .ok (.return_, 1) := by decide +kernel
theorem dX7_init_0 : decode cX7_init 0 = .ok (.aload_n 0, 1) := by decide +kernel
theorem dX7_init_1 : decode cX7_init 1 = .ok (.invokespecial 3, 3) := by decide +kernel
theorem dX7_init_4 : decode cX7_init 4 = .ok (.aload_n 0, 1) := by decide +kernel
theorem dX7_init_5 : decode cX7_init 5 = .ok (.bipush 36, 2) := by decide +kernel
theorem dX7_init_7 : decode cX7_init 7 = .ok (.newarray .int, 2) := by decide +kernel
theorem dX7_init_9 : decode cX7_init 9 = .ok (.putfield 9, 3) := by decide +kernel
theorem dX7_init_12 : decode cX7_init 12 = .ok (.aload_n 0, 1) := by decide +kernel
theorem dX7_init_13 : decode cX7_init 13 = .ok (.bipush 36, 2) := by decide +kernel
theorem dX7_init_15 : decode cX7_init 15 = .ok (.newarray .int, 2) := by decide +kernel
theorem dX7_init_17 : decode cX7_init 17 = .ok (.putfield 15, 3) := by decide +kernel
theorem dX7_init_20 : decode cX7_init 20 = .ok (.return_, 1) := by decide +kernel
theorem dX7_open_0 : decode cX7_open 0 = .ok (.iconst 0, 1) := by decide +kernel
theorem dX7_open_1 : decode cX7_open 1 = .ok (.istore_n 2, 1) := by decide +kernel
theorem dX7_open_2 : decode cX7_open 2 = .ok (.iload_n 2, 1) := by decide +kernel
theorem dX7_open_3 : decode cX7_open 3 = .ok (.aload_n 0, 1) := by decide +kernel
theorem dX7_open_4 : decode cX7_open 4 = .ok (.getfield 15, 3) := by decide +kernel
theorem dX7_open_7 : decode cX7_open 7 = .ok (.arraylength, 1) := by decide +kernel
theorem dX7_open_8 : decode cX7_open 8 = .ok (.if_icmp .ge 16, 3) := by decide +kernel
theorem dX7_open_11 : decode cX7_open 11 = .ok (.aload_n 0, 1) := by decide +kernel
theorem dX7_open_12 : decode cX7_open 12 = .ok (.getfield 15, 3) := by decide +kernel
theorem dX7_open_15 : decode cX7_open 15 = .ok (.iload_n 2, 1) := by decide +kernel
theorem dX7_open_16 : decode cX7_open 16 = .ok (.iload_n 1, 1) := by decide +kernel
theorem dX7_open_17 : decode cX7_open 17 = .ok (.iastore, 1) := by decide +kernel
theorem dX7_open_18 : decode cX7_open 18 = .ok (.iinc 2 1, 3) := by decide +kernel
theorem dX7_open_21 : decode cX7_open 21 = .ok (.goto (-19), 3) := by decide +kernel
theorem dX7_open_24 : decode cX7_open 24 = .ok (.return_, 1) := by decide +kernel
theorem dX7_turn_0 : decode cX7_turn 0 = .ok (.aload_n 0, 1) := by decide +kernel
theorem dX7_turn_1 : decode cX7_turn 1 = .ok (.getfield 9, 3) := by decide +kernel
theorem dX7_turn_4 : decode cX7_turn 4 = .ok (.astore_n 1, 1) := by decide +kernel
theorem dX7_turn_5 : decode cX7_turn 5 = .ok (.aload_n 0, 1) := by decide +kernel
theorem dX7_turn_6 : decode cX7_turn 6 = .ok (.aload_n 0, 1) := by decide +kernel
theorem dX7_turn_7 : decode cX7_turn 7 = .ok (.getfield 15, 3) := by decide +kernel
theorem dX7_turn_10 : decode cX7_turn 10 = .ok (.putfield 9, 3) := by decide +kernel
theorem dX7_turn_13 : decode cX7_turn 13 = .ok (.aload_n 0, 1) := by decide +kernel
theorem dX7_turn_14 : decode cX7_turn 14 = .ok (.aload_n 1, 1) := by decide +kernel
theorem dX7_turn_15 : decode cX7_turn 15 = .ok (.putfield 15, 3) := by decide +kernel
theorem dX7_turn_18 : decode cX7_turn 18 = .ok (.return_, 1) := by decide +kernel
theorem dX8_begins_0 : decode cX8_begins 0 = .ok (.aload_n 0, 1) := by decide +kernel
theorem dX8_begins_1 : decode cX8_begins 1 = .ok (.getfield 9, 3) := by decide +kernel
theorem dX8_begins_4 : decode cX8_begins 4 = .ok (.iload_n 1, 1) := by decide +kernel
theorem dX8_begins_5 : decode cX8_begins 5 = .ok (.iload_n 2, 1) := by decide +kernel
theorem dX8_begins_6 : decode cX8_begins 6 = .ok (.invokestatic 28, 3) := by decide +kernel
theorem dX8_begins_9 : decode cX8_begins 9 = .ok (.baload, 1) := by decide +kernel
theorem dX8_begins_10 : decode cX8_begins 10 = .ok (.ireturn, 1) := by decide +kernel
theorem dX8_init_0 : decode cX8_init 0 = .ok (.aload_n 0, 1) := by decide +kernel
theorem dX8_init_1 : decode cX8_init 1 = .ok (.invokespecial 3, 3) := by decide +kernel
theorem dX8_init_4 : decode cX8_init 4 = .ok (.aload_n 0, 1) := by decide +kernel
theorem dX8_init_5 : decode cX8_init 5 = .ok (.bipush 36, 2) := by decide +kernel
theorem dX8_init_7 : decode cX8_init 7 = .ok (.newarray .boolean, 2) := by decide +kernel
theorem dX8_init_9 : decode cX8_init 9 = .ok (.putfield 9, 3) := by decide +kernel
theorem dX8_init_12 : decode cX8_init 12 = .ok (.aload_n 0, 1) := by decide +kernel
theorem dX8_init_13 : decode cX8_init 13 = .ok (.bipush 36, 2) := by decide +kernel
theorem dX8_init_15 : decode cX8_init 15 = .ok (.newarray .boolean, 2) := by decide +kernel
theorem dX8_init_17 : decode cX8_init 17 = .ok (.putfield 15, 3) := by decide +kernel
theorem dX8_init_20 : decode cX8_init 20 = .ok (.aload_n 0, 1) := by decide +kernel
theorem dX8_init_21 : decode cX8_init 21 = .ok (.aload_n 1, 1) := by decide +kernel
theorem dX8_init_22 : decode cX8_init 22 = .ok (.putfield 18, 3) := by decide +kernel
theorem dX8_init_25 : decode cX8_init 25 = .ok (.return_, 1) := by decide +kernel
theorem dX8_passes_0 : decode cX8_passes 0 = .ok (.aload_n 0, 1) := by decide +kernel
theorem dX8_passes_1 : decode cX8_passes 1 = .ok (.getfield 15, 3) := by decide +kernel
theorem dX8_passes_4 : decode cX8_passes 4 = .ok (.iload_n 1, 1) := by decide +kernel
theorem dX8_passes_5 : decode cX8_passes 5 = .ok (.bipush 6, 2) := by decide +kernel
theorem dX8_passes_7 : decode cX8_passes 7 = .ok (.imul, 1) := by decide +kernel
theorem dX8_passes_8 : decode cX8_passes 8 = .ok (.iload_n 3, 1) := by decide +kernel
theorem dX8_passes_9 : decode cX8_passes 9 = .ok (.iadd, 1) := by decide +kernel
theorem dX8_passes_10 : decode cX8_passes 10 = .ok (.baload, 1) := by decide +kernel
theorem dX8_passes_11 : decode cX8_passes 11 = .ok (.ifCond .ne 21, 3) := by decide +kernel
theorem dX8_passes_14 : decode cX8_passes 14 = .ok (.aload_n 0, 1) := by decide +kernel
theorem dX8_passes_15 : decode cX8_passes 15 = .ok (.getfield 9, 3) := by decide +kernel
theorem dX8_passes_18 : decode cX8_passes 18 = .ok (.iload_n 2, 1) := by decide +kernel
theorem dX8_passes_19 : decode cX8_passes 19 = .ok (.bipush 6, 2) := by decide +kernel
theorem dX8_passes_21 : decode cX8_passes 21 = .ok (.imul, 1) := by decide +kernel
theorem dX8_passes_22 : decode cX8_passes 22 = .ok (.iload_n 3, 1) := by decide +kernel
theorem dX8_passes_23 : decode cX8_passes 23 = .ok (.iadd, 1) := by decide +kernel
theorem dX8_passes_24 : decode cX8_passes 24 = .ok (.baload, 1) := by decide +kernel
theorem dX8_passes_25 : decode cX8_passes 25 = .ok (.ifCond .eq 7, 3) := by decide +kernel
theorem dX8_passes_28 : decode cX8_passes 28 = .ok (.iconst 1, 1) := by decide +kernel
theorem dX8_passes_29 : decode cX8_passes 29 = .ok (.goto 4, 3) := by decide +kernel
theorem dX8_passes_32 : decode cX8_passes 32 = .ok (.iconst 0, 1) := by decide +kernel
theorem dX8_passes_33 : decode cX8_passes 33 = .ok (.ireturn, 1) := by decide +kernel
theorem dX8_supposeMet_0 : decode cX8_supposeMet 0 = .ok (.aload_n 0, 1) := by decide +kernel
theorem dX8_supposeMet_1 : decode cX8_supposeMet 1 = .ok (.getfield 9, 3) := by decide +kernel
theorem dX8_supposeMet_4 : decode cX8_supposeMet 4 = .ok (.iload_n 1, 1) := by decide +kernel
theorem dX8_supposeMet_5 : decode cX8_supposeMet 5 = .ok (.iload_n 2, 1) := by decide +kernel
theorem dX8_supposeMet_6 : decode cX8_supposeMet 6 = .ok (.invokestatic 28, 3) := by decide +kernel
theorem dX8_supposeMet_9 : decode cX8_supposeMet 9 = .ok (.aload_n 0, 1) := by decide +kernel
theorem dX8_supposeMet_10 : decode cX8_supposeMet 10 = .ok (.getfield 18, 3) := by decide +kernel
theorem dX8_supposeMet_13 : decode cX8_supposeMet 13 = .ok (.iload_n 1, 1) := by decide +kernel
theorem dX8_supposeMet_14 : decode cX8_supposeMet 14 = .ok (.iconst 1, 1) := by decide +kernel
theorem dX8_supposeMet_15 : decode cX8_supposeMet 15 = .ok (.invokevirtual 32, 3) := by decide +kernel
theorem dX8_supposeMet_18 : decode cX8_supposeMet 18 = .ok (.ifCond .ne 7, 3) := by decide +kernel
theorem dX8_supposeMet_21 : decode cX8_supposeMet 21 = .ok (.iconst 1, 1) := by decide +kernel
