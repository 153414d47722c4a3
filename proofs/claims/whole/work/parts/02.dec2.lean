theorem dX8_supposeMet_22 : decode cX8_supposeMet 22 = .ok (.goto 4, 3) := by decide +kernel
theorem dX8_supposeMet_25 : decode cX8_supposeMet 25 = .ok (.iconst 0, 1) := by decide +kernel
theorem dX8_supposeMet_26 : decode cX8_supposeMet 26 = .ok (.bastore, 1) := by decide +kernel
theorem dX8_supposeMet_27 : decode cX8_supposeMet 27 = .ok (.aload_n 0, 1) := by decide +kernel
theorem dX8_supposeMet_28 : decode cX8_supposeMet 28 = .ok (.getfield 9, 3) := by decide +kernel
theorem dX8_supposeMet_31 : decode cX8_supposeMet 31 = .ok (.iload_n 2, 1) := by decide +kernel
theorem dX8_supposeMet_32 : decode cX8_supposeMet 32 = .ok (.iload_n 1, 1) := by decide +kernel
theorem dX8_supposeMet_33 : decode cX8_supposeMet 33 = .ok (.invokestatic 28, 3) := by decide +kernel
theorem dX8_supposeMet_36 : decode cX8_supposeMet 36 = .ok (.aload_n 0, 1) := by decide +kernel
theorem dX8_supposeMet_37 : decode cX8_supposeMet 37 = .ok (.getfield 18, 3) := by decide +kernel
theorem dX8_supposeMet_40 : decode cX8_supposeMet 40 = .ok (.iload_n 2, 1) := by decide +kernel
theorem dX8_supposeMet_41 : decode cX8_supposeMet 41 = .ok (.iconst 1, 1) := by decide +kernel
theorem dX8_supposeMet_42 : decode cX8_supposeMet 42 = .ok (.invokevirtual 32, 3) := by decide +kernel
theorem dX8_supposeMet_45 : decode cX8_supposeMet 45 = .ok (.ifCond .ne 7, 3) := by decide +kernel
theorem dX8_supposeMet_48 : decode cX8_supposeMet 48 = .ok (.iconst 1, 1) := by decide +kernel
theorem dX8_supposeMet_49 : decode cX8_supposeMet 49 = .ok (.goto 4, 3) := by decide +kernel
theorem dX8_supposeMet_52 : decode cX8_supposeMet 52 = .ok (.iconst 0, 1) := by decide +kernel
theorem dX8_supposeMet_53 : decode cX8_supposeMet 53 = .ok (.bastore, 1) := by decide +kernel
theorem dX8_supposeMet_54 : decode cX8_supposeMet 54 = .ok (.return_, 1) := by decide +kernel
theorem dX8_supposeMiser_0 : decode cX8_supposeMiser 0 = .ok (.iconst 0, 1) := by decide +kernel
theorem dX8_supposeMiser_1 : decode cX8_supposeMiser 1 = .ok (.istore_n 2, 1) := by decide +kernel
theorem dX8_supposeMiser_2 : decode cX8_supposeMiser 2 = .ok (.iload_n 2, 1) := by decide +kernel
theorem dX8_supposeMiser_3 : decode cX8_supposeMiser 3 = .ok (.aload_n 0, 1) := by decide +kernel
theorem dX8_supposeMiser_4 : decode cX8_supposeMiser 4 = .ok (.getfield 18, 3) := by decide +kernel
theorem dX8_supposeMiser_7 : decode cX8_supposeMiser 7 = .ok (.getfield 22, 3) := by decide +kernel
theorem dX8_supposeMiser_10 : decode cX8_supposeMiser 10 = .ok (.if_icmp .ge 20, 3) := by decide +kernel
theorem dX8_supposeMiser_13 : decode cX8_supposeMiser 13 = .ok (.aload_n 0, 1) := by decide +kernel
theorem dX8_supposeMiser_14 : decode cX8_supposeMiser 14 = .ok (.getfield 9, 3) := by decide +kernel
theorem dX8_supposeMiser_17 : decode cX8_supposeMiser 17 = .ok (.iload_n 1, 1) := by decide +kernel
theorem dX8_supposeMiser_18 : decode cX8_supposeMiser 18 = .ok (.iload_n 2, 1) := by decide +kernel
theorem dX8_supposeMiser_19 : decode cX8_supposeMiser 19 = .ok (.invokestatic 28, 3) := by decide +kernel
theorem dX8_supposeMiser_22 : decode cX8_supposeMiser 22 = .ok (.iconst 0, 1) := by decide +kernel
theorem dX8_supposeMiser_23 : decode cX8_supposeMiser 23 = .ok (.bastore, 1) := by decide +kernel
theorem dX8_supposeMiser_24 : decode cX8_supposeMiser 24 = .ok (.iinc 2 1, 3) := by decide +kernel
theorem dX8_supposeMiser_27 : decode cX8_supposeMiser 27 = .ok (.goto (-25), 3) := by decide +kernel
theorem dX8_supposeMiser_30 : decode cX8_supposeMiser 30 = .ok (.return_, 1) := by decide +kernel
theorem dX8_supposeNothing_0 : decode cX8_supposeNothing 0 = .ok (.iconst 0, 1) := by decide +kernel
theorem dX8_supposeNothing_1 : decode cX8_supposeNothing 1 = .ok (.istore_n 1, 1) := by decide +kernel
theorem dX8_supposeNothing_2 : decode cX8_supposeNothing 2 = .ok (.iload_n 1, 1) := by decide +kernel
theorem dX8_supposeNothing_3 : decode cX8_supposeNothing 3 = .ok (.aload_n 0, 1) := by decide +kernel
theorem dX8_supposeNothing_4 : decode cX8_supposeNothing 4 = .ok (.getfield 18, 3) := by decide +kernel
theorem dX8_supposeNothing_7 : decode cX8_supposeNothing 7 = .ok (.getfield 22, 3) := by decide +kernel
theorem dX8_supposeNothing_10 : decode cX8_supposeNothing 10 = .ok (.if_icmp .ge 104, 3) := by decide +kernel
theorem dX8_supposeNothing_13 : decode cX8_supposeNothing 13 = .ok (.iconst 0, 1) := by decide +kernel
theorem dX8_supposeNothing_14 : decode cX8_supposeNothing 14 = .ok (.istore_n 2, 1) := by decide +kernel
theorem dX8_supposeNothing_15 : decode cX8_supposeNothing 15 = .ok (.iload_n 2, 1) := by decide +kernel
theorem dX8_supposeNothing_16 : decode cX8_supposeNothing 16 = .ok (.aload_n 0, 1) := by decide +kernel
theorem dX8_supposeNothing_17 : decode cX8_supposeNothing 17 = .ok (.getfield 18, 3) := by decide +kernel
theorem dX8_supposeNothing_20 : decode cX8_supposeNothing 20 = .ok (.getfield 22, 3) := by decide +kernel
theorem dX8_supposeNothing_23 : decode cX8_supposeNothing 23 = .ok (.if_icmp .ge 85, 3) := by decide +kernel
theorem dX8_supposeNothing_26 : decode cX8_supposeNothing 26 = .ok (.aload_n 0, 1) := by decide +kernel
theorem dX8_supposeNothing_27 : decode cX8_supposeNothing 27 = .ok (.getfield 9, 3) := by decide +kernel
theorem dX8_supposeNothing_30 : decode cX8_supposeNothing 30 = .ok (.iload_n 1, 1) := by decide +kernel
theorem dX8_supposeNothing_31 : decode cX8_supposeNothing 31 = .ok (.iload_n 2, 1) := by decide +kernel
theorem dX8_supposeNothing_32 : decode cX8_supposeNothing 32 = .ok (.invokestatic 28, 3) := by decide +kernel
theorem dX8_supposeNothing_35 : decode cX8_supposeNothing 35 = .ok (.iload_n 1, 1) := by decide +kernel
theorem dX8_supposeNothing_36 : decode cX8_supposeNothing 36 = .ok (.iload_n 2, 1) := by decide +kernel
theorem dX8_supposeNothing_37 : decode cX8_supposeNothing 37 = .ok (.if_icmp .eq 31, 3) := by decide +kernel
theorem dX8_supposeNothing_40 : decode cX8_supposeNothing 40 = .ok (.aload_n 0, 1) := by decide +kernel
theorem dX8_supposeNothing_41 : decode cX8_supposeNothing 41 = .ok (.getfield 18, 3) := by decide +kernel
theorem dX8_supposeNothing_44 : decode cX8_supposeNothing 44 = .ok (.iload_n 1, 1) := by decide +kernel
theorem dX8_supposeNothing_45 : decode cX8_supposeNothing 45 = .ok (.iconst 1, 1) := by decide +kernel
theorem dX8_supposeNothing_46 : decode cX8_supposeNothing 46 = .ok (.invokevirtual 32, 3) := by decide +kernel
theorem dX8_supposeNothing_49 : decode cX8_supposeNothing 49 = .ok (.ifCond .ne 19, 3) := by decide +kernel
theorem dX8_supposeNothing_52 : decode cX8_supposeNothing 52 = .ok (.aload_n 0, 1) := by decide +kernel
theorem dX8_supposeNothing_53 : decode cX8_supposeNothing 53 = .ok (.getfield 18, 3) := by decide +kernel
theorem dX8_supposeNothing_56 : decode cX8_supposeNothing 56 = .ok (.iload_n 1, 1) := by decide +kernel
theorem dX8_supposeNothing_57 : decode cX8_supposeNothing 57 = .ok (.iload_n 2, 1) := by decide +kernel
theorem dX8_supposeNothing_58 : decode cX8_supposeNothing 58 = .ok (.invokevirtual 36, 3) := by decide +kernel
theorem dX8_supposeNothing_61 : decode cX8_supposeNothing 61 = .ok (.ifCond .eq 7, 3) := by decide +kernel
theorem dX8_supposeNothing_64 : decode cX8_supposeNothing 64 = .ok (.iconst 1, 1) := by decide +kernel
theorem dX8_supposeNothing_65 : decode cX8_supposeNothing 65 = .ok (.goto 4, 3) := by decide +kernel
theorem dX8_supposeNothing_68 : decode cX8_supposeNothing 68 = .ok (.iconst 0, 1) := by decide +kernel
theorem dX8_supposeNothing_69 : decode cX8_supposeNothing 69 = .ok (.bastore, 1) := by decide +kernel
theorem dX8_supposeNothing_70 : decode cX8_supposeNothing 70 = .ok (.aload_n 0, 1) := by decide +kernel
theorem dX8_supposeNothing_71 : decode cX8_supposeNothing 71 = .ok (.getfield 15, 3) := by decide +kernel
theorem dX8_supposeNothing_74 : decode cX8_supposeNothing 74 = .ok (.iload_n 1, 1) := by decide +kernel
theorem dX8_supposeNothing_75 : decode cX8_supposeNothing 75 = .ok (.iload_n 2, 1) := by decide +kernel
theorem dX8_supposeNothing_76 : decode cX8_supposeNothing 76 = .ok (.invokestatic 28, 3) := by decide +kernel
theorem dX8_supposeNothing_79 : decode cX8_supposeNothing 79 = .ok (.iload_n 1, 1) := by decide +kernel
theorem dX8_supposeNothing_80 : decode cX8_supposeNothing 80 = .ok (.iload_n 2, 1) := by decide +kernel
theorem dX8_supposeNothing_81 : decode cX8_supposeNothing 81 = .ok (.if_icmp .eq 15, 3) := by decide +kernel
theorem dX8_supposeNothing_84 : decode cX8_supposeNothing 84 = .ok (.aload_n 0, 1) := by decide +kernel
theorem dX8_supposeNothing_85 : decode cX8_supposeNothing 85 = .ok (.getfield 18, 3) := by decide +kernel
theorem dX8_supposeNothing_88 : decode cX8_supposeNothing 88 = .ok (.iload_n 1, 1) := by decide +kernel
theorem dX8_supposeNothing_89 : decode cX8_supposeNothing 89 = .ok (.iload_n 2, 1) := by decide +kernel
theorem dX8_supposeNothing_90 : decode cX8_supposeNothing 90 = .ok (.invokevirtual 39, 3) := by decide +kernel
theorem dX8_supposeNothing_93 : decode cX8_supposeNothing 93 = .ok (.ifCond .eq 7, 3) := by decide +kernel
theorem dX8_supposeNothing_96 : decode cX8_supposeNothing 96 = .ok (.iconst 1, 1) := by decide +kernel
theorem dX8_supposeNothing_97 : decode cX8_supposeNothing 97 = .ok (.goto 4, 3) := by decide +kernel
theorem dX8_supposeNothing_100 : decode cX8_supposeNothing 100 = .ok (.iconst 0, 1) := by decide +kernel
theorem dX8_supposeNothing_101 : decode cX8_supposeNothing 101 = .ok (.bastore, 1) := by decide +kernel
theorem dX8_supposeNothing_102 : decode cX8_supposeNothing 102 = .ok (.iinc 2 1, 3) := by decide +kernel
theorem dX8_supposeNothing_105 : decode cX8_supposeNothing 105 = .ok (.goto (-90), 3) := by decide +kernel
theorem dX8_supposeNothing_108 : decode cX8_supposeNothing 108 = .ok (.iinc 1 1, 3) := by decide +kernel
theorem dX8_supposeNothing_111 : decode cX8_supposeNothing 111 = .ok (.goto (-109), 3) := by decide +kernel
theorem dX8_supposeNothing_114 : decode cX8_supposeNothing 114 = .ok (.return_, 1) := by decide +kernel
theorem dX9_begin_0 : decode cX9_begin 0 = .ok (.aload_n 0, 1) := by decide +kernel
theorem dX9_begin_1 : decode cX9_begin 1 = .ok (.getfield 12, 3) := by decide +kernel
theorem dX9_begin_4 : decode cX9_begin 4 = .ok (.iconst 0, 1) := by decide +kernel
theorem dX9_begin_5 : decode cX9_begin 5 = .ok (.invokevirtual 33, 3) := by decide +kernel
theorem dX9_begin_8 : decode cX9_begin 8 = .ok (.iconst 0, 1) := by decide +kernel
theorem dX9_begin_9 : decode cX9_begin 9 = .ok (.istore_n 3, 1) := by decide +kernel
theorem dX9_begin_10 : decode cX9_begin 10 = .ok (.iload_n 3, 1) := by decide +kernel
theorem dX9_begin_11 : decode cX9_begin 11 = .ok (.aload_n 0, 1) := by decide +kernel
theorem dX9_begin_12 : decode cX9_begin 12 = .ok (.getfield 25, 3) := by decide +kernel
theorem dX9_begin_15 : decode cX9_begin 15 = .ok (.getfield 37, 3) := by decide +kernel
theorem dX9_begin_18 : decode cX9_begin 18 = .ok (.if_icmp .ge 75, 3) := by decide +kernel
theorem dX9_begin_21 : decode cX9_begin 21 = .ok (.iconst 0, 1) := by decide +kernel
theorem dX9_begin_22 : decode cX9_begin 22 = .ok (.istore 4, 2) := by decide +kernel
theorem dX9_begin_24 : decode cX9_begin 24 = .ok (.iload 4, 2) := by decide +kernel
theorem dX9_begin_26 : decode cX9_begin 26 = .ok (.aload_n 0, 1) := by decide +kernel
theorem dX9_begin_27 : decode cX9_begin 27 = .ok (.getfield 25, 3) := by decide +kernel
theorem dX9_begin_30 : decode cX9_begin 30 = .ok (.getfield 37, 3) := by decide +kernel
theorem dX9_begin_33 : decode cX9_begin 33 = .ok (.if_icmp .ge 54, 3) := by decide +kernel
theorem dX9_begin_36 : decode cX9_begin 36 = .ok (.iload_n 3, 1) := by decide +kernel
theorem dX9_begin_37 : decode cX9_begin 37 = .ok (.iload_n 1, 1) := by decide +kernel
theorem dX9_begin_38 : decode cX9_begin 38 = .ok (.invokestatic 43, 3) := by decide +kernel
theorem dX9_begin_41 : decode cX9_begin 41 = .ok (.ifCond .eq 40, 3) := by decide +kernel
theorem dX9_begin_44 : decode cX9_begin 44 = .ok (.iload 4, 2) := by decide +kernel
theorem dX9_begin_46 : decode cX9_begin 46 = .ok (.iload_n 2, 1) := by decide +kernel
theorem dX9_begin_47 : decode cX9_begin 47 = .ok (.invokestatic 43, 3) := by decide +kernel
theorem dX9_begin_50 : decode cX9_begin 50 = .ok (.ifCond .eq 31, 3) := by decide +kernel
theorem dX9_begin_53 : decode cX9_begin 53 = .ok (.aload_n 0, 1) := by decide +kernel
theorem dX9_begin_54 : decode cX9_begin 54 = .ok (.getfield 29, 3) := by decide +kernel
theorem dX9_begin_57 : decode cX9_begin 57 = .ok (.iload_n 3, 1) := by decide +kernel
theorem dX9_begin_58 : decode cX9_begin 58 = .ok (.iload 4, 2) := by decide +kernel
theorem dX9_begin_60 : decode cX9_begin 60 = .ok (.invokevirtual 47, 3) := by decide +kernel
theorem dX9_begin_63 : decode cX9_begin 63 = .ok (.ifCond .eq 18, 3) := by decide +kernel
theorem dX9_begin_66 : decode cX9_begin 66 = .ok (.aload_n 0, 1) := by decide +kernel
theorem dX9_begin_67 : decode cX9_begin 67 = .ok (.getfield 12, 3) := by decide +kernel
theorem dX9_begin_70 : decode cX9_begin 70 = .ok (.getfield 52, 3) := by decide +kernel
theorem dX9_begin_73 : decode cX9_begin 73 = .ok (.iload_n 3, 1) := by decide +kernel
theorem dX9_begin_74 : decode cX9_begin 74 = .ok (.iload 4, 2) := by decide +kernel
theorem dX9_begin_76 : decode cX9_begin 76 = .ok (.invokestatic 56, 3) := by decide +kernel
theorem dX9_begin_79 : decode cX9_begin 79 = .ok (.iconst 1, 1) := by decide +kernel
theorem dX9_begin_80 : decode cX9_begin 80 = .ok (.iastore, 1) := by decide +kernel
theorem dX9_begin_81 : decode cX9_begin 81 = .ok (.iinc 4 1, 3) := by decide +kernel
theorem dX9_begin_84 : decode cX9_begin 84 = .ok (.goto (-60), 3) := by decide +kernel
theorem dX9_begin_87 : decode cX9_begin 87 = .ok (.iinc 3 1, 3) := by decide +kernel
theorem dX9_begin_90 : decode cX9_begin 90 = .ok (.goto (-80), 3) := by decide +kernel
theorem dX9_begin_93 : decode cX9_begin 93 = .ok (.aload_n 0, 1) := by decide +kernel
theorem dX9_begin_94 : decode cX9_begin 94 = .ok (.getfield 12, 3) := by decide +kernel
theorem dX9_begin_97 : decode cX9_begin 97 = .ok (.invokevirtual 60, 3) := by decide +kernel
theorem dX9_begin_100 : decode cX9_begin 100 = .ok (.return_, 1) := by decide +kernel
theorem dX9_canBe_0 : decode cX9_canBe 0 = .ok (.iload_n 1, 1) := by decide +kernel
theorem dX9_canBe_1 : decode cX9_canBe 1 = .ok (.iconst (-1), 1) := by decide +kernel
theorem dX9_canBe_2 : decode cX9_canBe 2 = .ok (.if_icmp .eq 8, 3) := by decide +kernel
theorem dX9_canBe_5 : decode cX9_canBe 5 = .ok (.iload_n 1, 1) := by decide +kernel
theorem dX9_canBe_6 : decode cX9_canBe 6 = .ok (.iload_n 0, 1) := by decide +kernel
theorem dX9_canBe_7 : decode cX9_canBe 7 = .ok (.if_icmp .ne 7, 3) := by decide +kernel
theorem dX9_canBe_10 : decode cX9_canBe 10 = .ok (.iconst 1, 1) := by decide +kernel
theorem dX9_canBe_11 : decode cX9_canBe 11 = .ok (.goto 4, 3) := by decide +kernel
theorem dX9_canBe_14 : decode cX9_canBe 14 = .ok (.iconst 0, 1) := by decide +kernel
theorem dX9_canBe_15 : decode cX9_canBe 15 = .ok (.ireturn, 1) := by decide +kernel
theorem dX9_dropEndsAt_0 : decode cX9_dropEndsAt 0 = .ok (.iconst 0, 1) := by decide +kernel
theorem dX9_dropEndsAt_1 : decode cX9_dropEndsAt 1 = .ok (.istore_n 2, 1) := by decide +kernel
theorem dX9_dropEndsAt_2 : decode cX9_dropEndsAt 2 = .ok (.iload_n 2, 1) := by decide +kernel
theorem dX9_dropEndsAt_3 : decode cX9_dropEndsAt 3 = .ok (.aload_n 0, 1) := by decide +kernel
theorem dX9_dropEndsAt_4 : decode cX9_dropEndsAt 4 = .ok (.getfield 25, 3) := by decide +kernel
theorem dX9_dropEndsAt_7 : decode cX9_dropEndsAt 7 = .ok (.getfield 37, 3) := by decide +kernel
theorem dX9_dropEndsAt_10 : decode cX9_dropEndsAt 10 = .ok (.if_icmp .ge 23, 3) := by decide +kernel
theorem dX9_dropEndsAt_13 : decode cX9_dropEndsAt 13 = .ok (.aload_n 0, 1) := by decide +kernel
theorem dX9_dropEndsAt_14 : decode cX9_dropEndsAt 14 = .ok (.getfield 12, 3) := by decide +kernel
theorem dX9_dropEndsAt_17 : decode cX9_dropEndsAt 17 = .ok (.getfield 63, 3) := by decide +kernel
theorem dX9_dropEndsAt_20 : decode cX9_dropEndsAt 20 = .ok (.iload_n 2, 1) := by decide +kernel
theorem dX9_dropEndsAt_21 : decode cX9_dropEndsAt 21 = .ok (.iload_n 1, 1) := by decide +kernel
theorem dX9_dropEndsAt_22 : decode cX9_dropEndsAt 22 = .ok (.invokestatic 56, 3) := by decide +kernel
theorem dX9_dropEndsAt_25 : decode cX9_dropEndsAt 25 = .ok (.iconst 0, 1) := by decide +kernel
theorem dX9_dropEndsAt_26 : decode cX9_dropEndsAt 26 = .ok (.iastore, 1) := by decide +kernel
theorem dX9_dropEndsAt_27 : decode cX9_dropEndsAt 27 = .ok (.iinc 2 1, 3) := by decide +kernel
theorem dX9_dropEndsAt_30 : decode cX9_dropEndsAt 30 = .ok (.goto (-28), 3) := by decide +kernel
theorem dX9_dropEndsAt_33 : decode cX9_dropEndsAt 33 = .ok (.return_, 1) := by decide +kernel
theorem dX9_fitsOf_0 : decode cX9_fitsOf 0 = .ok (.aload_n 1, 1) := by decide +kernel
theorem dX9_fitsOf_1 : decode cX9_fitsOf 1 = .ok (.getfield 88, 3) := by decide +kernel
theorem dX9_fitsOf_4 : decode cX9_fitsOf 4 = .ok (.ifCond .ne 5, 3) := by decide +kernel
theorem dX9_fitsOf_7 : decode cX9_fitsOf 7 = .ok (.iconst 1, 1) := by decide +kernel
theorem dX9_fitsOf_8 : decode cX9_fitsOf 8 = .ok (.ireturn, 1) := by decide +kernel
theorem dX9_fitsOf_9 : decode cX9_fitsOf 9 = .ok (.aload_n 1, 1) := by decide +kernel
theorem dX9_fitsOf_10 : decode cX9_fitsOf 10 = .ok (.getfield 88, 3) := by decide +kernel
theorem dX9_fitsOf_13 : decode cX9_fitsOf 13 = .ok (.iconst 1, 1) := by decide +kernel
theorem dX9_fitsOf_14 : decode cX9_fitsOf 14 = .ok (.if_icmp .ne 25, 3) := by decide +kernel
theorem dX9_fitsOf_17 : decode cX9_fitsOf 17 = .ok (.aload_n 1, 1) := by decide +kernel
theorem dX9_fitsOf_18 : decode cX9_fitsOf 18 = .ok (.getfield 89, 3) := by decide +kernel
theorem dX9_fitsOf_21 : decode cX9_fitsOf 21 = .ok (.iconst 0, 1) := by decide +kernel
theorem dX9_fitsOf_22 : decode cX9_fitsOf 22 = .ok (.iaload, 1) := by decide +kernel
theorem dX9_fitsOf_23 : decode cX9_fitsOf 23 = .ok (.iconst (-1), 1) := by decide +kernel
theorem dX9_fitsOf_24 : decode cX9_fitsOf 24 = .ok (.if_icmp .ne 13, 3) := by decide +kernel
theorem dX9_fitsOf_27 : decode cX9_fitsOf 27 = .ok (.aload_n 0, 1) := by decide +kernel
theorem dX9_fitsOf_28 : decode cX9_fitsOf 28 = .ok (.getfield 25, 3) := by decide +kernel
theorem dX9_fitsOf_31 : decode cX9_fitsOf 31 = .ok (.getfield 37, 3) := by decide +kernel
theorem dX9_fitsOf_34 : decode cX9_fitsOf 34 = .ok (.goto 4, 3) := by decide +kernel
theorem dX9_fitsOf_37 : decode cX9_fitsOf 37 = .ok (.iconst 1, 1) := by decide +kernel
theorem dX9_fitsOf_38 : decode cX9_fitsOf 38 = .ok (.ireturn, 1) := by decide +kernel
theorem dX9_fitsOf_39 : decode cX9_fitsOf 39 = .ok (.aload_n 0, 1) := by decide +kernel
theorem dX9_fitsOf_40 : decode cX9_fitsOf 40 = .ok (.aload_n 1, 1) := by decide +kernel
theorem dX9_fitsOf_41 : decode cX9_fitsOf 41 = .ok (.getfield 89, 3) := by decide +kernel
theorem dX9_fitsOf_44 : decode cX9_fitsOf 44 = .ok (.iconst 0, 1) := by decide +kernel
theorem dX9_fitsOf_45 : decode cX9_fitsOf 45 = .ok (.iaload, 1) := by decide +kernel
theorem dX9_fitsOf_46 : decode cX9_fitsOf 46 = .ok (.aload_n 1, 1) := by decide +kernel
theorem dX9_fitsOf_47 : decode cX9_fitsOf 47 = .ok (.getfield 89, 3) := by decide +kernel
theorem dX9_fitsOf_50 : decode cX9_fitsOf 50 = .ok (.iconst 1, 1) := by decide +kernel
theorem dX9_fitsOf_51 : decode cX9_fitsOf 51 = .ok (.iaload, 1) := by decide +kernel
theorem dX9_fitsOf_52 : decode cX9_fitsOf 52 = .ok (.invokevirtual 74, 3) := by decide +kernel
theorem dX9_fitsOf_55 : decode cX9_fitsOf 55 = .ok (.iconst 2, 1) := by decide +kernel
theorem dX9_fitsOf_56 : decode cX9_fitsOf 56 = .ok (.istore_n 2, 1) := by decide +kernel
theorem dX9_fitsOf_57 : decode cX9_fitsOf 57 = .ok (.iload_n 2, 1) := by decide +kernel
theorem dX9_fitsOf_58 : decode cX9_fitsOf 58 = .ok (.aload_n 1, 1) := by decide +kernel
theorem dX9_fitsOf_59 : decode cX9_fitsOf 59 = .ok (.getfield 88, 3) := by decide +kernel
theorem dX9_fitsOf_62 : decode cX9_fitsOf 62 = .ok (.if_icmp .ge 19, 3) := by decide +kernel
theorem dX9_fitsOf_65 : decode cX9_fitsOf 65 = .ok (.aload_n 0, 1) := by decide +kernel
theorem dX9_fitsOf_66 : decode cX9_fitsOf 66 = .ok (.aload_n 1, 1) := by decide +kernel
theorem dX9_fitsOf_67 : decode cX9_fitsOf 67 = .ok (.getfield 89, 3) := by decide +kernel
theorem dX9_fitsOf_70 : decode cX9_fitsOf 70 = .ok (.iload_n 2, 1) := by decide +kernel
theorem dX9_fitsOf_71 : decode cX9_fitsOf 71 = .ok (.iaload, 1) := by decide +kernel
theorem dX9_fitsOf_72 : decode cX9_fitsOf 72 = .ok (.invokevirtual 81, 3) := by decide +kernel
theorem dX9_fitsOf_75 : decode cX9_fitsOf 75 = .ok (.iinc 2 1, 3) := by decide +kernel
theorem dX9_fitsOf_78 : decode cX9_fitsOf 78 = .ok (.goto (-21), 3) := by decide +kernel
theorem dX9_fitsOf_81 : decode cX9_fitsOf 81 = .ok (.aload_n 0, 1) := by decide +kernel
theorem dX9_fitsOf_82 : decode cX9_fitsOf 82 = .ok (.invokevirtual 84, 3) := by decide +kernel
theorem dX9_fitsOf_85 : decode cX9_fitsOf 85 = .ok (.ireturn, 1) := by decide +kernel
theorem dX9_goOn_0 : decode cX9_goOn 0 = .ok (.aload_n 0, 1) := by decide +kernel
theorem dX9_goOn_1 : decode cX9_goOn 1 = .ok (.getfield 12, 3) := by decide +kernel
theorem dX9_goOn_4 : decode cX9_goOn 4 = .ok (.iconst 0, 1) := by decide +kernel
theorem dX9_goOn_5 : decode cX9_goOn 5 = .ok (.invokevirtual 33, 3) := by decide +kernel
theorem dX9_goOn_8 : decode cX9_goOn 8 = .ok (.iconst 0, 1) := by decide +kernel
theorem dX9_goOn_9 : decode cX9_goOn 9 = .ok (.istore_n 2, 1) := by decide +kernel
theorem dX9_goOn_10 : decode cX9_goOn 10 = .ok (.iload_n 2, 1) := by decide +kernel
theorem dX9_goOn_11 : decode cX9_goOn 11 = .ok (.aload_n 0, 1) := by decide +kernel
theorem dX9_goOn_12 : decode cX9_goOn 12 = .ok (.getfield 25, 3) := by decide +kernel
theorem dX9_goOn_15 : decode cX9_goOn 15 = .ok (.getfield 37, 3) := by decide +kernel
theorem dX9_goOn_18 : decode cX9_goOn 18 = .ok (.if_icmp .ge 57, 3) := by decide +kernel
theorem dX9_goOn_21 : decode cX9_goOn 21 = .ok (.iconst 0, 1) := by decide +kernel
theorem dX9_goOn_22 : decode cX9_goOn 22 = .ok (.istore_n 3, 1) := by decide +kernel
theorem dX9_goOn_23 : decode cX9_goOn 23 = .ok (.iload_n 3, 1) := by decide +kernel
theorem dX9_goOn_24 : decode cX9_goOn 24 = .ok (.aload_n 0, 1) := by decide +kernel
theorem dX9_goOn_25 : decode cX9_goOn 25 = .ok (.getfield 25, 3) := by decide +kernel
theorem dX9_goOn_28 : decode cX9_goOn 28 = .ok (.getfield 37, 3) := by decide +kernel
theorem dX9_goOn_31 : decode cX9_goOn 31 = .ok (.if_icmp .ge 38, 3) := by decide +kernel
theorem dX9_goOn_34 : decode cX9_goOn 34 = .ok (.aload_n 0, 1) := by decide +kernel
theorem dX9_goOn_35 : decode cX9_goOn 35 = .ok (.getfield 12, 3) := by decide +kernel
theorem dX9_goOn_38 : decode cX9_goOn 38 = .ok (.getfield 63, 3) := by decide +kernel
theorem dX9_goOn_41 : decode cX9_goOn 41 = .ok (.iload_n 2, 1) := by decide +kernel
theorem dX9_goOn_42 : decode cX9_goOn 42 = .ok (.iload_n 3, 1) := by decide +kernel
theorem dX9_goOn_43 : decode cX9_goOn 43 = .ok (.invokestatic 56, 3) := by decide +kernel
theorem dX9_goOn_46 : decode cX9_goOn 46 = .ok (.iaload, 1) := by decide +kernel
theorem dX9_goOn_47 : decode cX9_goOn 47 = .ok (.istore 4, 2) := by decide +kernel
theorem dX9_goOn_49 : decode cX9_goOn 49 = .ok (.iload 4, 2) := by decide +kernel
theorem dX9_goOn_51 : decode cX9_goOn 51 = .ok (.ifCond .eq 12, 3) := by decide +kernel
theorem dX9_goOn_54 : decode cX9_goOn 54 = .ok (.aload_n 0, 1) := by decide +kernel
theorem dX9_goOn_55 : decode cX9_goOn 55 = .ok (.iload_n 2, 1) := by decide +kernel
theorem dX9_goOn_56 : decode cX9_goOn 56 = .ok (.iload_n 3, 1) := by decide +kernel
theorem dX9_goOn_57 : decode cX9_goOn 57 = .ok (.iload_n 1, 1) := by decide +kernel
theorem dX9_goOn_58 : decode cX9_goOn 58 = .ok (.iload 4, 2) := by decide +kernel
theorem dX9_goOn_60 : decode cX9_goOn 60 = .ok (.invokevirtual 66, 3) := by decide +kernel
theorem dX9_goOn_63 : decode cX9_goOn 63 = .ok (.iinc 3 1, 3) := by decide +kernel
theorem dX9_goOn_66 : decode cX9_goOn 66 = .ok (.goto (-43), 3) := by decide +kernel
theorem dX9_goOn_69 : decode cX9_goOn 69 = .ok (.iinc 2 1, 3) := by decide +kernel
theorem dX9_goOn_72 : decode cX9_goOn 72 = .ok (.goto (-62), 3) := by decide +kernel
theorem dX9_goOn_75 : decode cX9_goOn 75 = .ok (.aload_n 0, 1) := by decide +kernel
theorem dX9_goOn_76 : decode cX9_goOn 76 = .ok (.getfield 12, 3) := by decide +kernel
theorem dX9_goOn_79 : decode cX9_goOn 79 = .ok (.invokevirtual 60, 3) := by decide +kernel
theorem dX9_goOn_82 : decode cX9_goOn 82 = .ok (.return_, 1) := by decide +kernel
theorem dX9_init_0 : decode cX9_init 0 = .ok (.aload_n 0, 1) := by decide +kernel
theorem dX9_init_1 : decode cX9_init 1 = .ok (.invokespecial 3, 3) := by decide +kernel
theorem dX9_init_4 : decode cX9_init 4 = .ok (.aload_n 0, 1) := by decide +kernel
theorem dX9_init_5 : decode cX9_init 5 = .ok (.new 9, 3) := by decide +kernel
theorem dX9_init_8 : decode cX9_init 8 = .ok (.dup, 1) := by decide +kernel
theorem dX9_init_9 : decode cX9_init 9 = .ok (.invokespecial 11, 3) := by decide +kernel
theorem dX9_init_12 : decode cX9_init 12 = .ok (.putfield 12, 3) := by decide +kernel
theorem dX9_init_15 : decode cX9_init 15 = .ok (.aload_n 0, 1) := by decide +kernel
theorem dX9_init_16 : decode cX9_init 16 = .ok (.new 18, 3) := by decide +kernel
theorem dX9_init_19 : decode cX9_init 19 = .ok (.dup, 1) := by decide +kernel
theorem dX9_init_20 : decode cX9_init 20 = .ok (.invokespecial 20, 3) := by decide +kernel
theorem dX9_init_23 : decode cX9_init 23 = .ok (.putfield 21, 3) := by decide +kernel
theorem dX9_init_26 : decode cX9_init 26 = .ok (.aload_n 0, 1) := by decide +kernel
theorem dX9_init_27 : decode cX9_init 27 = .ok (.aload_n 1, 1) := by decide +kernel
theorem dX9_init_28 : decode cX9_init 28 = .ok (.putfield 25, 3) := by decide +kernel
theorem dX9_init_31 : decode cX9_init 31 = .ok (.aload_n 0, 1) := by decide +kernel
theorem dX9_init_32 : decode cX9_init 32 = .ok (.aload_n 2, 1) := by decide +kernel
theorem dX9_init_33 : decode cX9_init 33 = .ok (.putfield 29, 3) := by decide +kernel
theorem dX9_init_36 : decode cX9_init 36 = .ok (.return_, 1) := by decide +kernel
theorem dX9_onlyOneAt_0 : decode cX9_onlyOneAt 0 = .ok (.iconst (-1), 1) := by decide +kernel
theorem dX9_onlyOneAt_1 : decode cX9_onlyOneAt 1 = .ok (.istore_n 3, 1) := by decide +kernel
theorem dX9_onlyOneAt_2 : decode cX9_onlyOneAt 2 = .ok (.aload_n 0, 1) := by decide +kernel
theorem dX9_onlyOneAt_3 : decode cX9_onlyOneAt 3 = .ok (.getfield 21, 3) := by decide +kernel
theorem dX9_onlyOneAt_6 : decode cX9_onlyOneAt 6 = .ok (.aload_n 1, 1) := by decide +kernel
theorem dX9_onlyOneAt_7 : decode cX9_onlyOneAt 7 = .ok (.invokevirtual 92, 3) := by decide +kernel
theorem dX9_onlyOneAt_10 : decode cX9_onlyOneAt 10 = .ok (.iconst 0, 1) := by decide +kernel
theorem dX9_onlyOneAt_11 : decode cX9_onlyOneAt 11 = .ok (.istore 4, 2) := by decide +kernel
theorem dX9_onlyOneAt_13 : decode cX9_onlyOneAt 13 = .ok (.iload 4, 2) := by decide +kernel
theorem dX9_onlyOneAt_15 : decode cX9_onlyOneAt 15 = .ok (.aload_n 0, 1) := by decide +kernel
theorem dX9_onlyOneAt_16 : decode cX9_onlyOneAt 16 = .ok (.getfield 25, 3) := by decide +kernel
theorem dX9_onlyOneAt_19 : decode cX9_onlyOneAt 19 = .ok (.getfield 37, 3) := by decide +kernel
theorem dX9_onlyOneAt_22 : decode cX9_onlyOneAt 22 = .ok (.if_icmp .ge 55, 3) := by decide +kernel
theorem dX9_onlyOneAt_25 : decode cX9_onlyOneAt 25 = .ok (.aload_n 0, 1) := by decide +kernel
theorem dX9_onlyOneAt_26 : decode cX9_onlyOneAt 26 = .ok (.getfield 21, 3) := by decide +kernel
theorem dX9_onlyOneAt_29 : decode cX9_onlyOneAt 29 = .ok (.getfield 89, 3) := by decide +kernel
theorem dX9_onlyOneAt_32 : decode cX9_onlyOneAt 32 = .ok (.iload_n 2, 1) := by decide +kernel
theorem dX9_onlyOneAt_33 : decode cX9_onlyOneAt 33 = .ok (.iload 4, 2) := by decide +kernel
theorem dX9_onlyOneAt_35 : decode cX9_onlyOneAt 35 = .ok (.iastore, 1) := by decide +kernel
theorem dX9_onlyOneAt_36 : decode cX9_onlyOneAt 36 = .ok (.iload 4, 2) := by decide +kernel
theorem dX9_onlyOneAt_38 : decode cX9_onlyOneAt 38 = .ok (.aload_n 1, 1) := by decide +kernel
theorem dX9_onlyOneAt_39 : decode cX9_onlyOneAt 39 = .ok (.getfield 89, 3) := by decide +kernel
theorem dX9_onlyOneAt_42 : decode cX9_onlyOneAt 42 = .ok (.iload_n 2, 1) := by decide +kernel
theorem dX9_onlyOneAt_43 : decode cX9_onlyOneAt 43 = .ok (.iaload, 1) := by decide +kernel
theorem dX9_onlyOneAt_44 : decode cX9_onlyOneAt 44 = .ok (.invokestatic 43, 3) := by decide +kernel
theorem dX9_onlyOneAt_47 : decode cX9_onlyOneAt 47 = .ok (.ifCond .eq 24, 3) := by decide +kernel
theorem dX9_onlyOneAt_50 : decode cX9_onlyOneAt 50 = .ok (.aload_n 0, 1) := by decide +kernel
theorem dX9_onlyOneAt_51 : decode cX9_onlyOneAt 51 = .ok (.aload_n 0, 1) := by decide +kernel
theorem dX9_onlyOneAt_52 : decode cX9_onlyOneAt 52 = .ok (.getfield 21, 3) := by decide +kernel
theorem dX9_onlyOneAt_55 : decode cX9_onlyOneAt 55 = .ok (.invokevirtual 96, 3) := by decide +kernel
theorem dX9_onlyOneAt_58 : decode cX9_onlyOneAt 58 = .ok (.ifCond .le 13, 3) := by decide +kernel
theorem dX9_onlyOneAt_61 : decode cX9_onlyOneAt 61 = .ok (.iload_n 3, 1) := by decide +kernel
theorem dX9_onlyOneAt_62 : decode cX9_onlyOneAt 62 = .ok (.iconst (-1), 1) := by decide +kernel
theorem dX9_onlyOneAt_63 : decode cX9_onlyOneAt 63 = .ok (.if_icmp .eq 5, 3) := by decide +kernel
theorem dX9_onlyOneAt_66 : decode cX9_onlyOneAt 66 = .ok (.iconst (-1), 1) := by decide +kernel
theorem dX9_onlyOneAt_67 : decode cX9_onlyOneAt 67 = .ok (.ireturn, 1) := by decide +kernel
theorem dX9_onlyOneAt_68 : decode cX9_onlyOneAt 68 = .ok (.iload 4, 2) := by decide +kernel
theorem dX9_onlyOneAt_70 : decode cX9_onlyOneAt 70 = .ok (.istore_n 3, 1) := by decide +kernel
theorem dX9_onlyOneAt_71 : decode cX9_onlyOneAt 71 = .ok (.iinc 4 1, 3) := by decide +kernel
theorem dX9_onlyOneAt_74 : decode cX9_onlyOneAt 74 = .ok (.goto (-61), 3) := by decide +kernel
theorem dX9_onlyOneAt_77 : decode cX9_onlyOneAt 77 = .ok (.iload_n 3, 1) := by decide +kernel
theorem dX9_onlyOneAt_78 : decode cX9_onlyOneAt 78 = .ok (.ireturn, 1) := by decide +kernel
theorem dX9_passOn_0 : decode cX9_passOn 0 = .ok (.iconst 0, 1) := by decide +kernel
theorem dX9_passOn_1 : decode cX9_passOn 1 = .ok (.istore 5, 2) := by decide +kernel
theorem dX9_passOn_3 : decode cX9_passOn 3 = .ok (.iload 5, 2) := by decide +kernel
theorem dX9_passOn_5 : decode cX9_passOn 5 = .ok (.aload_n 0, 1) := by decide +kernel
theorem dX9_passOn_6 : decode cX9_passOn 6 = .ok (.getfield 25, 3) := by decide +kernel
theorem dX9_passOn_9 : decode cX9_passOn 9 = .ok (.getfield 37, 3) := by decide +kernel
theorem dX9_passOn_12 : decode cX9_passOn 12 = .ok (.if_icmp .ge 51, 3) := by decide +kernel
theorem dX9_passOn_15 : decode cX9_passOn 15 = .ok (.iload 5, 2) := by decide +kernel
theorem dX9_passOn_17 : decode cX9_passOn 17 = .ok (.iload_n 3, 1) := by decide +kernel
theorem dX9_passOn_18 : decode cX9_passOn 18 = .ok (.invokestatic 43, 3) := by decide +kernel
theorem dX9_passOn_21 : decode cX9_passOn 21 = .ok (.ifCond .eq 36, 3) := by decide +kernel
theorem dX9_passOn_24 : decode cX9_passOn 24 = .ok (.aload_n 0, 1) := by decide +kernel
theorem dX9_passOn_25 : decode cX9_passOn 25 = .ok (.getfield 29, 3) := by decide +kernel
theorem dX9_passOn_28 : decode cX9_passOn 28 = .ok (.iload_n 1, 1) := by decide +kernel
theorem dX9_passOn_29 : decode cX9_passOn 29 = .ok (.iload_n 2, 1) := by decide +kernel
theorem dX9_passOn_30 : decode cX9_passOn 30 = .ok (.iload 5, 2) := by decide +kernel
theorem dX9_passOn_32 : decode cX9_passOn 32 = .ok (.invokevirtual 70, 3) := by decide +kernel
theorem dX9_passOn_35 : decode cX9_passOn 35 = .ok (.ifCond .eq 22, 3) := by decide +kernel
theorem dX9_passOn_38 : decode cX9_passOn 38 = .ok (.aload_n 0, 1) := by decide +kernel
theorem dX9_passOn_39 : decode cX9_passOn 39 = .ok (.getfield 12, 3) := by decide +kernel
theorem dX9_passOn_42 : decode cX9_passOn 42 = .ok (.getfield 52, 3) := by decide +kernel
theorem dX9_passOn_45 : decode cX9_passOn 45 = .ok (.iload_n 2, 1) := by decide +kernel
theorem dX9_passOn_46 : decode cX9_passOn 46 = .ok (.iload 5, 2) := by decide +kernel
theorem dX9_passOn_48 : decode cX9_passOn 48 = .ok (.invokestatic 56, 3) := by decide +kernel
theorem dX9_passOn_51 : decode cX9_passOn 51 = .ok (.dup2, 1) := by decide +kernel
theorem dX9_passOn_52 : decode cX9_passOn 52 = .ok (.iaload, 1) := by decide +kernel
theorem dX9_passOn_53 : decode cX9_passOn 53 = .ok (.iload 4, 2) := by decide +kernel
theorem dX9_passOn_55 : decode cX9_passOn 55 = .ok (.iadd, 1) := by decide +kernel
theorem dX9_passOn_56 : decode cX9_passOn 56 = .ok (.iastore, 1) := by decide +kernel
theorem dX9_passOn_57 : decode cX9_passOn 57 = .ok (.iinc 5 1, 3) := by decide +kernel
theorem dX9_passOn_60 : decode cX9_passOn 60 = .ok (.goto (-57), 3) := by decide +kernel
theorem dX9_passOn_63 : decode cX9_passOn 63 = .ok (.return_, 1) := by decide +kernel
theorem dX9_ringsOf_0 : decode cX9_ringsOf 0 = .ok (.aload_n 0, 1) := by decide +kernel
theorem dX9_ringsOf_1 : decode cX9_ringsOf 1 = .ok (.iload_n 1, 1) := by decide +kernel
theorem dX9_ringsOf_2 : decode cX9_ringsOf 2 = .ok (.iconst (-1), 1) := by decide +kernel
theorem dX9_ringsOf_3 : decode cX9_ringsOf 3 = .ok (.invokevirtual 74, 3) := by decide +kernel
theorem dX9_ringsOf_6 : decode cX9_ringsOf 6 = .ok (.iconst 2, 1) := by decide +kernel
theorem dX9_ringsOf_7 : decode cX9_ringsOf 7 = .ok (.istore_n 3, 1) := by decide +kernel
theorem dX9_ringsOf_8 : decode cX9_ringsOf 8 = .ok (.iload_n 3, 1) := by decide +kernel
theorem dX9_ringsOf_9 : decode cX9_ringsOf 9 = .ok (.iload_n 2, 1) := by decide +kernel
theorem dX9_ringsOf_10 : decode cX9_ringsOf 10 = .ok (.if_icmp .gt 28, 3) := by decide +kernel
theorem dX9_ringsOf_13 : decode cX9_ringsOf 13 = .ok (.aload_n 0, 1) := by decide +kernel
theorem dX9_ringsOf_14 : decode cX9_ringsOf 14 = .ok (.iload_n 1, 1) := by decide +kernel
theorem dX9_ringsOf_15 : decode cX9_ringsOf 15 = .ok (.invokevirtual 78, 3) := by decide +kernel
theorem dX9_ringsOf_18 : decode cX9_ringsOf 18 = .ok (.aload_n 0, 1) := by decide +kernel
theorem dX9_ringsOf_19 : decode cX9_ringsOf 19 = .ok (.iload_n 3, 1) := by decide +kernel
theorem dX9_ringsOf_20 : decode cX9_ringsOf 20 = .ok (.iload_n 2, 1) := by decide +kernel
theorem dX9_ringsOf_21 : decode cX9_ringsOf 21 = .ok (.if_icmp .ne 7, 3) := by decide +kernel
theorem dX9_ringsOf_24 : decode cX9_ringsOf 24 = .ok (.iload_n 1, 1) := by decide +kernel
theorem dX9_ringsOf_25 : decode cX9_ringsOf 25 = .ok (.goto 4, 3) := by decide +kernel
theorem dX9_ringsOf_28 : decode cX9_ringsOf 28 = .ok (.iconst (-1), 1) := by decide +kernel
theorem dX9_ringsOf_29 : decode cX9_ringsOf 29 = .ok (.invokevirtual 81, 3) := by decide +kernel
theorem dX9_ringsOf_32 : decode cX9_ringsOf 32 = .ok (.iinc 3 1, 3) := by decide +kernel
theorem dX9_ringsOf_35 : decode cX9_ringsOf 35 = .ok (.goto (-27), 3) := by decide +kernel
theorem dX9_ringsOf_38 : decode cX9_ringsOf 38 = .ok (.aload_n 0, 1) := by decide +kernel
theorem dX9_ringsOf_39 : decode cX9_ringsOf 39 = .ok (.invokevirtual 84, 3) := by decide +kernel
theorem dX9_ringsOf_42 : decode cX9_ringsOf 42 = .ok (.ireturn, 1) := by decide +kernel
theorem dX9_sumOfLatest_0 : decode cX9_sumOfLatest 0 = .ok (.iconst 0, 1) := by decide +kernel
theorem dX9_sumOfLatest_1 : decode cX9_sumOfLatest 1 = .ok (.istore_n 1, 1) := by decide +kernel
theorem dX9_sumOfLatest_2 : decode cX9_sumOfLatest 2 = .ok (.aload_n 0, 1) := by decide +kernel
theorem dX9_sumOfLatest_3 : decode cX9_sumOfLatest 3 = .ok (.getfield 12, 3) := by decide +kernel
theorem dX9_sumOfLatest_6 : decode cX9_sumOfLatest 6 = .ok (.getfield 63, 3) := by decide +kernel
theorem dX9_sumOfLatest_9 : decode cX9_sumOfLatest 9 = .ok (.astore_n 2, 1) := by decide +kernel
theorem dX9_sumOfLatest_10 : decode cX9_sumOfLatest 10 = .ok (.aload_n 2, 1) := by decide +kernel
theorem dX9_sumOfLatest_11 : decode cX9_sumOfLatest 11 = .ok (.arraylength, 1) := by decide +kernel
theorem dX9_sumOfLatest_12 : decode cX9_sumOfLatest 12 = .ok (.istore_n 3, 1) := by decide +kernel
theorem dX9_sumOfLatest_13 : decode cX9_sumOfLatest 13 = .ok (.iconst 0, 1) := by decide +kernel
theorem dX9_sumOfLatest_14 : decode cX9_sumOfLatest 14 = .ok (.istore 4, 2) := by decide +kernel
theorem dX9_sumOfLatest_16 : decode cX9_sumOfLatest 16 = .ok (.iload 4, 2) := by decide +kernel
theorem dX9_sumOfLatest_18 : decode cX9_sumOfLatest 18 = .ok (.iload_n 3, 1) := by decide +kernel
theorem dX9_sumOfLatest_19 : decode cX9_sumOfLatest 19 = .ok (.if_icmp .ge 20, 3) := by decide +kernel
theorem dX9_sumOfLatest_22 : decode cX9_sumOfLatest 22 = .ok (.aload_n 2, 1) := by decide +kernel
theorem dX9_sumOfLatest_23 : decode cX9_sumOfLatest 23 = .ok (.iload 4, 2) := by decide +kernel
theorem dX9_sumOfLatest_25 : decode cX9_sumOfLatest 25 = .ok (.iaload, 1) := by decide +kernel
theorem dX9_sumOfLatest_26 : decode cX9_sumOfLatest 26 = .ok (.istore 5, 2) := by decide +kernel
theorem dX9_sumOfLatest_28 : decode cX9_sumOfLatest 28 = .ok (.iload_n 1, 1) := by decide +kernel
theorem dX9_sumOfLatest_29 : decode cX9_sumOfLatest 29 = .ok (.iload 5, 2) := by decide +kernel
theorem dX9_sumOfLatest_31 : decode cX9_sumOfLatest 31 = .ok (.iadd, 1) := by decide +kernel
theorem dX9_sumOfLatest_32 : decode cX9_sumOfLatest 32 = .ok (.istore_n 1, 1) := by decide +kernel
theorem dX9_sumOfLatest_33 : decode cX9_sumOfLatest 33 = .ok (.iinc 4 1, 3) := by decide +kernel
theorem dX9_sumOfLatest_36 : decode cX9_sumOfLatest 36 = .ok (.goto (-20), 3) := by decide +kernel
theorem dX9_sumOfLatest_39 : decode cX9_sumOfLatest 39 = .ok (.iload_n 1, 1) := by decide +kernel
theorem dX9_sumOfLatest_40 : decode cX9_sumOfLatest 40 = .ok (.ireturn, 1) := by decide +kernel
theorem dX10_bestMeeting_0 : decode cX10_bestMeeting 0 = .ok (.aload_n 0, 1) := by decide +kernel
theorem dX10_bestMeeting_1 : decode cX10_bestMeeting 1 = .ok (.iload_n 1, 1) := by decide +kernel
theorem dX10_bestMeeting_2 : decode cX10_bestMeeting 2 = .ok (.iload_n 2, 1) := by decide +kernel
theorem dX10_bestMeeting_3 : decode cX10_bestMeeting 3 = .ok (.iload_n 3, 1) := by decide +kernel
theorem dX10_bestMeeting_4 : decode cX10_bestMeeting 4 = .ok (.invokevirtual 78, 3) := by decide +kernel
theorem dX10_bestMeeting_7 : decode cX10_bestMeeting 7 = .ok (.istore 4, 2) := by decide +kernel
theorem dX10_bestMeeting_9 : decode cX10_bestMeeting 9 = .ok (.iconst (-1), 1) := by decide +kernel
theorem dX10_bestMeeting_10 : decode cX10_bestMeeting 10 = .ok (.istore 5, 2) := by decide +kernel
theorem dX10_bestMeeting_12 : decode cX10_bestMeeting 12 = .ok (.iconst 0, 1) := by decide +kernel
theorem dX10_bestMeeting_13 : decode cX10_bestMeeting 13 = .ok (.istore 6, 2) := by decide +kernel
theorem dX10_bestMeeting_15 : decode cX10_bestMeeting 15 = .ok (.iload 6, 2) := by decide +kernel
theorem dX10_bestMeeting_17 : decode cX10_bestMeeting 17 = .ok (.aload_n 0, 1) := by decide +kernel
theorem dX10_bestMeeting_18 : decode cX10_bestMeeting 18 = .ok (.getfield 22, 3) := by decide +kernel
theorem dX10_bestMeeting_21 : decode cX10_bestMeeting 21 = .ok (.getfield 34, 3) := by decide +kernel
theorem dX10_bestMeeting_24 : decode cX10_bestMeeting 24 = .ok (.if_icmp .ge 96, 3) := by decide +kernel
theorem dX10_bestMeeting_27 : decode cX10_bestMeeting 27 = .ok (.iload 6, 2) := by decide +kernel
theorem dX10_bestMeeting_29 : decode cX10_bestMeeting 29 = .ok (.iconst 1, 1) := by decide +kernel
theorem dX10_bestMeeting_30 : decode cX10_bestMeeting 30 = .ok (.iadd, 1) := by decide +kernel
theorem dX10_bestMeeting_31 : decode cX10_bestMeeting 31 = .ok (.istore 7, 2) := by decide +kernel
theorem dX10_bestMeeting_33 : decode cX10_bestMeeting 33 = .ok (.iload 7, 2) := by decide +kernel
theorem dX10_bestMeeting_35 : decode cX10_bestMeeting 35 = .ok (.aload_n 0, 1) := by decide +kernel
theorem dX10_bestMeeting_36 : decode cX10_bestMeeting 36 = .ok (.getfield 22, 3) := by decide +kernel
theorem dX10_bestMeeting_39 : decode cX10_bestMeeting 39 = .ok (.getfield 34, 3) := by decide +kernel
theorem dX10_bestMeeting_42 : decode cX10_bestMeeting 42 = .ok (.if_icmp .ge 72, 3) := by decide +kernel
theorem dX10_bestMeeting_45 : decode cX10_bestMeeting 45 = .ok (.aload_n 0, 1) := by decide +kernel
theorem dX10_bestMeeting_46 : decode cX10_bestMeeting 46 = .ok (.getfield 22, 3) := by decide +kernel
theorem dX10_bestMeeting_49 : decode cX10_bestMeeting 49 = .ok (.iload 6, 2) := by decide +kernel
theorem dX10_bestMeeting_51 : decode cX10_bestMeeting 51 = .ok (.iload 7, 2) := by decide +kernel
theorem dX10_bestMeeting_53 : decode cX10_bestMeeting 53 = .ok (.invokevirtual 92, 3) := by decide +kernel
theorem dX10_bestMeeting_56 : decode cX10_bestMeeting 56 = .ok (.ifCond .eq 7, 3) := by decide +kernel
theorem dX10_bestMeeting_59 : decode cX10_bestMeeting 59 = .ok (.iconst (-1), 1) := by decide +kernel
theorem dX10_bestMeeting_60 : decode cX10_bestMeeting 60 = .ok (.goto 14, 3) := by decide +kernel
theorem dX10_bestMeeting_63 : decode cX10_bestMeeting 63 = .ok (.aload_n 0, 1) := by decide +kernel
theorem dX10_bestMeeting_64 : decode cX10_bestMeeting 64 = .ok (.iload 6, 2) := by decide +kernel
theorem dX10_bestMeeting_66 : decode cX10_bestMeeting 66 = .ok (.iload 7, 2) := by decide +kernel
theorem dX10_bestMeeting_68 : decode cX10_bestMeeting 68 = .ok (.iload_n 1, 1) := by decide +kernel
theorem dX10_bestMeeting_69 : decode cX10_bestMeeting 69 = .ok (.iload_n 2, 1) := by decide +kernel
theorem dX10_bestMeeting_70 : decode cX10_bestMeeting 70 = .ok (.iload_n 3, 1) := by decide +kernel
theorem dX10_bestMeeting_71 : decode cX10_bestMeeting 71 = .ok (.invokevirtual 96, 3) := by decide +kernel
theorem dX10_bestMeeting_74 : decode cX10_bestMeeting 74 = .ok (.istore 8, 2) := by decide +kernel
theorem dX10_bestMeeting_76 : decode cX10_bestMeeting 76 = .ok (.iload 8, 2) := by decide +kernel
theorem dX10_bestMeeting_78 : decode cX10_bestMeeting 78 = .ok (.iconst (-1), 1) := by decide +kernel
theorem dX10_bestMeeting_79 : decode cX10_bestMeeting 79 = .ok (.if_icmp .eq 29, 3) := by decide +kernel
theorem dX10_bestMeeting_82 : decode cX10_bestMeeting 82 = .ok (.iload 4, 2) := by decide +kernel
theorem dX10_bestMeeting_84 : decode cX10_bestMeeting 84 = .ok (.iconst (-1), 1) := by decide +kernel
theorem dX10_bestMeeting_85 : decode cX10_bestMeeting 85 = .ok (.if_icmp .eq 10, 3) := by decide +kernel
theorem dX10_bestMeeting_88 : decode cX10_bestMeeting 88 = .ok (.iload 8, 2) := by decide +kernel
theorem dX10_bestMeeting_90 : decode cX10_bestMeeting 90 = .ok (.iload 4, 2) := by decide +kernel
theorem dX10_bestMeeting_92 : decode cX10_bestMeeting 92 = .ok (.if_icmp .ge 16, 3) := by decide +kernel
theorem dX10_bestMeeting_95 : decode cX10_bestMeeting 95 = .ok (.iload 8, 2) := by decide +kernel
theorem dX10_bestMeeting_97 : decode cX10_bestMeeting 97 = .ok (.istore 4, 2) := by decide +kernel
theorem dX10_bestMeeting_99 : decode cX10_bestMeeting 99 = .ok (.iload 6, 2) := by decide +kernel
theorem dX10_bestMeeting_101 : decode cX10_bestMeeting 101 = .ok (.iload 7, 2) := by decide +kernel
theorem dX10_bestMeeting_103 : decode cX10_bestMeeting 103 = .ok (.invokestatic 50, 3) := by decide +kernel
theorem dX10_bestMeeting_106 : decode cX10_bestMeeting 106 = .ok (.istore 5, 2) := by decide +kernel
theorem dX10_bestMeeting_108 : decode cX10_bestMeeting 108 = .ok (.iinc 7 1, 3) := by decide +kernel
theorem dX10_bestMeeting_111 : decode cX10_bestMeeting 111 = .ok (.goto (-78), 3) := by decide +kernel
theorem dX10_bestMeeting_114 : decode cX10_bestMeeting 114 = .ok (.iinc 6 1, 3) := by decide +kernel
theorem dX10_bestMeeting_117 : decode cX10_bestMeeting 117 = .ok (.goto (-102), 3) := by decide +kernel
theorem dX10_bestMeeting_120 : decode cX10_bestMeeting 120 = .ok (.iload 5, 2) := by decide +kernel
theorem dX10_bestMeeting_122 : decode cX10_bestMeeting 122 = .ok (.ireturn, 1) := by decide +kernel
theorem dX10_doFirst_0 : decode cX10_doFirst 0 = .ok (.aload_n 0, 1) := by decide +kernel
theorem dX10_doFirst_1 : decode cX10_doFirst 1 = .ok (.getfield 12, 3) := by decide +kernel
theorem dX10_doFirst_4 : decode cX10_doFirst 4 = .ok (.iconst (-1), 1) := by decide +kernel
theorem dX10_doFirst_5 : decode cX10_doFirst 5 = .ok (.invokevirtual 30, 3) := by decide +kernel
theorem dX10_doFirst_8 : decode cX10_doFirst 8 = .ok (.iconst 0, 1) := by decide +kernel
theorem dX10_doFirst_9 : decode cX10_doFirst 9 = .ok (.istore_n 3, 1) := by decide +kernel
theorem dX10_doFirst_10 : decode cX10_doFirst 10 = .ok (.iload_n 3, 1) := by decide +kernel
theorem dX10_doFirst_11 : decode cX10_doFirst 11 = .ok (.aload_n 0, 1) := by decide +kernel
theorem dX10_doFirst_12 : decode cX10_doFirst 12 = .ok (.getfield 22, 3) := by decide +kernel
theorem dX10_doFirst_15 : decode cX10_doFirst 15 = .ok (.getfield 34, 3) := by decide +kernel
theorem dX10_doFirst_18 : decode cX10_doFirst 18 = .ok (.if_icmp .ge 36, 3) := by decide +kernel
theorem dX10_doFirst_21 : decode cX10_doFirst 21 = .ok (.aload_n 0, 1) := by decide +kernel
theorem dX10_doFirst_22 : decode cX10_doFirst 22 = .ok (.getfield 26, 3) := by decide +kernel
theorem dX10_doFirst_25 : decode cX10_doFirst 25 = .ok (.iload_n 1, 1) := by decide +kernel
theorem dX10_doFirst_26 : decode cX10_doFirst 26 = .ok (.iload_n 2, 1) := by decide +kernel
theorem dX10_doFirst_27 : decode cX10_doFirst 27 = .ok (.iload_n 3, 1) := by decide +kernel
theorem dX10_doFirst_28 : decode cX10_doFirst 28 = .ok (.invokevirtual 40, 3) := by decide +kernel
theorem dX10_doFirst_31 : decode cX10_doFirst 31 = .ok (.ifCond .eq 17, 3) := by decide +kernel
theorem dX10_doFirst_34 : decode cX10_doFirst 34 = .ok (.aload_n 0, 1) := by decide +kernel
theorem dX10_doFirst_35 : decode cX10_doFirst 35 = .ok (.getfield 12, 3) := by decide +kernel
theorem dX10_doFirst_38 : decode cX10_doFirst 38 = .ok (.getfield 46, 3) := by decide +kernel
theorem dX10_doFirst_41 : decode cX10_doFirst 41 = .ok (.iload_n 2, 1) := by decide +kernel
theorem dX10_doFirst_42 : decode cX10_doFirst 42 = .ok (.iload_n 3, 1) := by decide +kernel
theorem dX10_doFirst_43 : decode cX10_doFirst 43 = .ok (.invokestatic 50, 3) := by decide +kernel
theorem dX10_doFirst_46 : decode cX10_doFirst 46 = .ok (.iload_n 3, 1) := by decide +kernel
theorem dX10_doFirst_47 : decode cX10_doFirst 47 = .ok (.iastore, 1) := by decide +kernel
theorem dX10_doFirst_48 : decode cX10_doFirst 48 = .ok (.iinc 3 1, 3) := by decide +kernel
theorem dX10_doFirst_51 : decode cX10_doFirst 51 = .ok (.goto (-41), 3) := by decide +kernel
theorem dX10_doFirst_54 : decode cX10_doFirst 54 = .ok (.aload_n 0, 1) := by decide +kernel
theorem dX10_doFirst_55 : decode cX10_doFirst 55 = .ok (.getfield 12, 3) := by decide +kernel
theorem dX10_doFirst_58 : decode cX10_doFirst 58 = .ok (.invokevirtual 54, 3) := by decide +kernel
theorem dX10_doFirst_61 : decode cX10_doFirst 61 = .ok (.return_, 1) := by decide +kernel
theorem dX10_doNext_0 : decode cX10_doNext 0 = .ok (.aload_n 0, 1) := by decide +kernel
theorem dX10_doNext_1 : decode cX10_doNext 1 = .ok (.getfield 12, 3) := by decide +kernel
theorem dX10_doNext_4 : decode cX10_doNext 4 = .ok (.iconst (-1), 1) := by decide +kernel
theorem dX10_doNext_5 : decode cX10_doNext 5 = .ok (.invokevirtual 30, 3) := by decide +kernel
theorem dX10_doNext_8 : decode cX10_doNext 8 = .ok (.iconst 0, 1) := by decide +kernel
theorem dX10_doNext_9 : decode cX10_doNext 9 = .ok (.istore_n 1, 1) := by decide +kernel
theorem dX10_doNext_10 : decode cX10_doNext 10 = .ok (.iload_n 1, 1) := by decide +kernel
theorem dX10_doNext_11 : decode cX10_doNext 11 = .ok (.aload_n 0, 1) := by decide +kernel
theorem dX10_doNext_12 : decode cX10_doNext 12 = .ok (.getfield 22, 3) := by decide +kernel
theorem dX10_doNext_15 : decode cX10_doNext 15 = .ok (.getfield 34, 3) := by decide +kernel
theorem dX10_doNext_18 : decode cX10_doNext 18 = .ok (.if_icmp .ge 54, 3) := by decide +kernel
theorem dX10_doNext_21 : decode cX10_doNext 21 = .ok (.iconst 0, 1) := by decide +kernel
theorem dX10_doNext_22 : decode cX10_doNext 22 = .ok (.istore_n 2, 1) := by decide +kernel
theorem dX10_doNext_23 : decode cX10_doNext 23 = .ok (.iload_n 2, 1) := by decide +kernel
theorem dX10_doNext_24 : decode cX10_doNext 24 = .ok (.aload_n 0, 1) := by decide +kernel
theorem dX10_doNext_25 : decode cX10_doNext 25 = .ok (.getfield 22, 3) := by decide +kernel
theorem dX10_doNext_28 : decode cX10_doNext 28 = .ok (.getfield 34, 3) := by decide +kernel
theorem dX10_doNext_31 : decode cX10_doNext 31 = .ok (.if_icmp .ge 35, 3) := by decide +kernel
theorem dX10_doNext_34 : decode cX10_doNext 34 = .ok (.aload_n 0, 1) := by decide +kernel
theorem dX10_doNext_35 : decode cX10_doNext 35 = .ok (.getfield 12, 3) := by decide +kernel
theorem dX10_doNext_38 : decode cX10_doNext 38 = .ok (.getfield 57, 3) := by decide +kernel
theorem dX10_doNext_41 : decode cX10_doNext 41 = .ok (.iload_n 1, 1) := by decide +kernel
theorem dX10_doNext_42 : decode cX10_doNext 42 = .ok (.iload_n 2, 1) := by decide +kernel
theorem dX10_doNext_43 : decode cX10_doNext 43 = .ok (.invokestatic 50, 3) := by decide +kernel
theorem dX10_doNext_46 : decode cX10_doNext 46 = .ok (.iaload, 1) := by decide +kernel
theorem dX10_doNext_47 : decode cX10_doNext 47 = .ok (.istore_n 3, 1) := by decide +kernel
theorem dX10_doNext_48 : decode cX10_doNext 48 = .ok (.iload_n 3, 1) := by decide +kernel
theorem dX10_doNext_49 : decode cX10_doNext 49 = .ok (.iconst (-1), 1) := by decide +kernel
theorem dX10_doNext_50 : decode cX10_doNext 50 = .ok (.if_icmp .eq 10, 3) := by decide +kernel
theorem dX10_doNext_53 : decode cX10_doNext 53 = .ok (.aload_n 0, 1) := by decide +kernel
theorem dX10_doNext_54 : decode cX10_doNext 54 = .ok (.iload_n 1, 1) := by decide +kernel
theorem dX10_doNext_55 : decode cX10_doNext 55 = .ok (.iload_n 2, 1) := by decide +kernel
theorem dX10_doNext_56 : decode cX10_doNext 56 = .ok (.iload_n 3, 1) := by decide +kernel
theorem dX10_doNext_57 : decode cX10_doNext 57 = .ok (.invokevirtual 60, 3) := by decide +kernel
theorem dX10_doNext_60 : decode cX10_doNext 60 = .ok (.iinc 2 1, 3) := by decide +kernel
theorem dX10_doNext_63 : decode cX10_doNext 63 = .ok (.goto (-40), 3) := by decide +kernel
theorem dX10_doNext_66 : decode cX10_doNext 66 = .ok (.iinc 1 1, 3) := by decide +kernel
theorem dX10_doNext_69 : decode cX10_doNext 69 = .ok (.goto (-59), 3) := by decide +kernel
theorem dX10_doNext_72 : decode cX10_doNext 72 = .ok (.aload_n 0, 1) := by decide +kernel
theorem dX10_doNext_73 : decode cX10_doNext 73 = .ok (.getfield 12, 3) := by decide +kernel
theorem dX10_doNext_76 : decode cX10_doNext 76 = .ok (.invokevirtual 54, 3) := by decide +kernel
theorem dX10_doNext_79 : decode cX10_doNext 79 = .ok (.return_, 1) := by decide +kernel
theorem dX10_init_0 : decode cX10_init 0 = .ok (.aload_n 0, 1) := by decide +kernel
theorem dX10_init_1 : decode cX10_init 1 = .ok (.invokespecial 3, 3) := by decide +kernel
theorem dX10_init_4 : decode cX10_init 4 = .ok (.aload_n 0, 1) := by decide +kernel
theorem dX10_init_5 : decode cX10_init 5 = .ok (.new 9, 3) := by decide +kernel
theorem dX10_init_8 : decode cX10_init 8 = .ok (.dup, 1) := by decide +kernel
theorem dX10_init_9 : decode cX10_init 9 = .ok (.invokespecial 11, 3) := by decide +kernel
theorem dX10_init_12 : decode cX10_init 12 = .ok (.putfield 12, 3) := by decide +kernel
theorem dX10_init_15 : decode cX10_init 15 = .ok (.aload_n 0, 1) := by decide +kernel
theorem dX10_init_16 : decode cX10_init 16 = .ok (.bipush 6, 2) := by decide +kernel
theorem dX10_init_18 : decode cX10_init 18 = .ok (.newarray .boolean, 2) := by decide +kernel
theorem dX10_init_20 : decode cX10_init 20 = .ok (.putfield 18, 3) := by decide +kernel
theorem dX10_init_23 : decode cX10_init 23 = .ok (.aload_n 0, 1) := by decide +kernel
theorem dX10_init_24 : decode cX10_init 24 = .ok (.aload_n 1, 1) := by decide +kernel
theorem dX10_init_25 : decode cX10_init 25 = .ok (.putfield 22, 3) := by decide +kernel
theorem dX10_init_28 : decode cX10_init 28 = .ok (.aload_n 0, 1) := by decide +kernel
theorem dX10_init_29 : decode cX10_init 29 = .ok (.aload_n 2, 1) := by decide +kernel
theorem dX10_init_30 : decode cX10_init 30 = .ok (.putfield 26, 3) := by decide +kernel
theorem dX10_init_33 : decode cX10_init 33 = .ok (.return_, 1) := by decide +kernel
theorem dX10_isBar_0 : decode cX10_isBar 0 = .ok (.aload_n 0, 1) := by decide +kernel
theorem dX10_isBar_1 : decode cX10_isBar 1 = .ok (.getfield 26, 3) := by decide +kernel
theorem dX10_isBar_4 : decode cX10_isBar 4 = .ok (.iload_n 1, 1) := by decide +kernel
theorem dX10_isBar_5 : decode cX10_isBar 5 = .ok (.invokevirtual 86, 3) := by decide +kernel
theorem dX10_isBar_8 : decode cX10_isBar 8 = .ok (.aload_n 0, 1) := by decide +kernel
theorem dX10_isBar_9 : decode cX10_isBar 9 = .ok (.iload_n 2, 1) := by decide +kernel
theorem dX10_isBar_10 : decode cX10_isBar 10 = .ok (.iload_n 3, 1) := by decide +kernel
theorem dX10_isBar_11 : decode cX10_isBar 11 = .ok (.iload 4, 2) := by decide +kernel
theorem dX10_isBar_13 : decode cX10_isBar 13 = .ok (.invokevirtual 78, 3) := by decide +kernel
theorem dX10_isBar_16 : decode cX10_isBar 16 = .ok (.istore 5, 2) := by decide +kernel
theorem dX10_isBar_18 : decode cX10_isBar 18 = .ok (.aload_n 0, 1) := by decide +kernel
theorem dX10_isBar_19 : decode cX10_isBar 19 = .ok (.getfield 26, 3) := by decide +kernel
theorem dX10_isBar_22 : decode cX10_isBar 22 = .ok (.invokevirtual 89, 3) := by decide +kernel
theorem dX10_isBar_25 : decode cX10_isBar 25 = .ok (.iload 5, 2) := by decide +kernel
theorem dX10_isBar_27 : decode cX10_isBar 27 = .ok (.iconst (-1), 1) := by decide +kernel
theorem dX10_isBar_28 : decode cX10_isBar 28 = .ok (.if_icmp .ne 7, 3) := by decide +kernel
theorem dX10_isBar_31 : decode cX10_isBar 31 = .ok (.iconst 1, 1) := by decide +kernel
theorem dX10_isBar_32 : decode cX10_isBar 32 = .ok (.goto 4, 3) := by decide +kernel
theorem dX10_isBar_35 : decode cX10_isBar 35 = .ok (.iconst 0, 1) := by decide +kernel
theorem dX10_isBar_36 : decode cX10_isBar 36 = .ok (.ireturn, 1) := by decide +kernel
theorem dX10_leastBar_0 : decode cX10_leastBar 0 = .ok (.aload_n 0, 1) := by decide +kernel
theorem dX10_leastBar_1 : decode cX10_leastBar 1 = .ok (.iload_n 1, 1) := by decide +kernel
theorem dX10_leastBar_2 : decode cX10_leastBar 2 = .ok (.iload_n 2, 1) := by decide +kernel
theorem dX10_leastBar_3 : decode cX10_leastBar 3 = .ok (.iload_n 3, 1) := by decide +kernel
theorem dX10_leastBar_4 : decode cX10_leastBar 4 = .ok (.invokevirtual 78, 3) := by decide +kernel
theorem dX10_leastBar_7 : decode cX10_leastBar 7 = .ok (.iconst (-1), 1) := by decide +kernel
theorem dX10_leastBar_8 : decode cX10_leastBar 8 = .ok (.if_icmp .ne 5, 3) := by decide +kernel
theorem dX10_leastBar_11 : decode cX10_leastBar 11 = .ok (.iconst (-1), 1) := by decide +kernel
theorem dX10_leastBar_12 : decode cX10_leastBar 12 = .ok (.ireturn, 1) := by decide +kernel
theorem dX10_leastBar_13 : decode cX10_leastBar 13 = .ok (.iconst 0, 1) := by decide +kernel
theorem dX10_leastBar_14 : decode cX10_leastBar 14 = .ok (.istore 4, 2) := by decide +kernel
theorem dX10_leastBar_16 : decode cX10_leastBar 16 = .ok (.iload 4, 2) := by decide +kernel
theorem dX10_leastBar_18 : decode cX10_leastBar 18 = .ok (.aload_n 0, 1) := by decide +kernel
theorem dX10_leastBar_19 : decode cX10_leastBar 19 = .ok (.getfield 22, 3) := by decide +kernel
theorem dX10_leastBar_22 : decode cX10_leastBar 22 = .ok (.getfield 34, 3) := by decide +kernel
theorem dX10_leastBar_25 : decode cX10_leastBar 25 = .ok (.if_icmp .ge 36, 3) := by decide +kernel
theorem dX10_leastBar_28 : decode cX10_leastBar 28 = .ok (.iload 4, 2) := by decide +kernel
theorem dX10_leastBar_30 : decode cX10_leastBar 30 = .ok (.iload_n 3, 1) := by decide +kernel
theorem dX10_leastBar_31 : decode cX10_leastBar 31 = .ok (.if_icmp .eq 24, 3) := by decide +kernel
theorem dX10_leastBar_34 : decode cX10_leastBar 34 = .ok (.iload 4, 2) := by decide +kernel
theorem dX10_leastBar_36 : decode cX10_leastBar 36 = .ok (.iload_n 2, 1) := by decide +kernel
theorem dX10_leastBar_37 : decode cX10_leastBar 37 = .ok (.if_icmp .eq 18, 3) := by decide +kernel
theorem dX10_leastBar_40 : decode cX10_leastBar 40 = .ok (.aload_n 0, 1) := by decide +kernel
theorem dX10_leastBar_41 : decode cX10_leastBar 41 = .ok (.iload 4, 2) := by decide +kernel
theorem dX10_leastBar_43 : decode cX10_leastBar 43 = .ok (.iload_n 1, 1) := by decide +kernel
theorem dX10_leastBar_44 : decode cX10_leastBar 44 = .ok (.iload_n 2, 1) := by decide +kernel
theorem dX10_leastBar_45 : decode cX10_leastBar 45 = .ok (.iload_n 3, 1) := by decide +kernel
theorem dX10_leastBar_46 : decode cX10_leastBar 46 = .ok (.invokevirtual 82, 3) := by decide +kernel
theorem dX10_leastBar_49 : decode cX10_leastBar 49 = .ok (.ifCond .eq 6, 3) := by decide +kernel
theorem dX10_leastBar_52 : decode cX10_leastBar 52 = .ok (.iload 4, 2) := by decide +kernel
theorem dX10_leastBar_54 : decode cX10_leastBar 54 = .ok (.ireturn, 1) := by decide +kernel
theorem dX10_leastBar_55 : decode cX10_leastBar 55 = .ok (.iinc 4 1, 3) := by decide +kernel
theorem dX10_leastBar_58 : decode cX10_leastBar 58 = .ok (.goto (-42), 3) := by decide +kernel
theorem dX10_leastBar_61 : decode cX10_leastBar 61 = .ok (.iconst (-1), 1) := by decide +kernel
theorem dX10_leastBar_62 : decode cX10_leastBar 62 = .ok (.ireturn, 1) := by decide +kernel
theorem dX10_leastFirstTo_0 : decode cX10_leastFirstTo 0 = .ok (.iconst (-1), 1) := by decide +kernel
theorem dX10_leastFirstTo_1 : decode cX10_leastFirstTo 1 = .ok (.istore_n 2, 1) := by decide +kernel
theorem dX10_leastFirstTo_2 : decode cX10_leastFirstTo 2 = .ok (.iconst 0, 1) := by decide +kernel
theorem dX10_leastFirstTo_3 : decode cX10_leastFirstTo 3 = .ok (.istore_n 3, 1) := by decide +kernel
theorem dX10_leastFirstTo_4 : decode cX10_leastFirstTo 4 = .ok (.iload_n 3, 1) := by decide +kernel
theorem dX10_leastFirstTo_5 : decode cX10_leastFirstTo 5 = .ok (.aload_n 0, 1) := by decide +kernel
theorem dX10_leastFirstTo_6 : decode cX10_leastFirstTo 6 = .ok (.getfield 22, 3) := by decide +kernel
theorem dX10_leastFirstTo_9 : decode cX10_leastFirstTo 9 = .ok (.getfield 34, 3) := by decide +kernel
theorem dX10_leastFirstTo_12 : decode cX10_leastFirstTo 12 = .ok (.if_icmp .ge 44, 3) := by decide +kernel
theorem dX10_leastFirstTo_15 : decode cX10_leastFirstTo 15 = .ok (.aload_n 0, 1) := by decide +kernel
theorem dX10_leastFirstTo_16 : decode cX10_leastFirstTo 16 = .ok (.getfield 12, 3) := by decide +kernel
theorem dX10_leastFirstTo_19 : decode cX10_leastFirstTo 19 = .ok (.getfield 57, 3) := by decide +kernel
theorem dX10_leastFirstTo_22 : decode cX10_leastFirstTo 22 = .ok (.iload_n 3, 1) := by decide +kernel
theorem dX10_leastFirstTo_23 : decode cX10_leastFirstTo 23 = .ok (.iload_n 1, 1) := by decide +kernel
theorem dX10_leastFirstTo_24 : decode cX10_leastFirstTo 24 = .ok (.invokestatic 50, 3) := by decide +kernel
theorem dX10_leastFirstTo_27 : decode cX10_leastFirstTo 27 = .ok (.iaload, 1) := by decide +kernel
theorem dX10_leastFirstTo_28 : decode cX10_leastFirstTo 28 = .ok (.istore 4, 2) := by decide +kernel
theorem dX10_leastFirstTo_30 : decode cX10_leastFirstTo 30 = .ok (.iload 4, 2) := by decide +kernel
theorem dX10_leastFirstTo_32 : decode cX10_leastFirstTo 32 = .ok (.iconst (-1), 1) := by decide +kernel
theorem dX10_leastFirstTo_33 : decode cX10_leastFirstTo 33 = .ok (.if_icmp .eq 17, 3) := by decide +kernel
theorem dX10_leastFirstTo_36 : decode cX10_leastFirstTo 36 = .ok (.iload_n 2, 1) := by decide +kernel
theorem dX10_leastFirstTo_37 : decode cX10_leastFirstTo 37 = .ok (.iconst (-1), 1) := by decide +kernel
theorem dX10_leastFirstTo_38 : decode cX10_leastFirstTo 38 = .ok (.if_icmp .eq 9, 3) := by decide +kernel
theorem dX10_leastFirstTo_41 : decode cX10_leastFirstTo 41 = .ok (.iload 4, 2) := by decide +kernel
theorem dX10_leastFirstTo_43 : decode cX10_leastFirstTo 43 = .ok (.iload_n 2, 1) := by decide +kernel
theorem dX10_leastFirstTo_44 : decode cX10_leastFirstTo 44 = .ok (.if_icmp .ge 6, 3) := by decide +kernel
theorem dX10_leastFirstTo_47 : decode cX10_leastFirstTo 47 = .ok (.iload 4, 2) := by decide +kernel
theorem dX10_leastFirstTo_49 : decode cX10_leastFirstTo 49 = .ok (.istore_n 2, 1) := by decide +kernel
theorem dX10_leastFirstTo_50 : decode cX10_leastFirstTo 50 = .ok (.iinc 3 1, 3) := by decide +kernel
theorem dX10_leastFirstTo_53 : decode cX10_leastFirstTo 53 = .ok (.goto (-49), 3) := by decide +kernel
theorem dX10_leastFirstTo_56 : decode cX10_leastFirstTo 56 = .ok (.iload_n 2, 1) := by decide +kernel
theorem dX10_leastFirstTo_57 : decode cX10_leastFirstTo 57 = .ok (.ireturn, 1) := by decide +kernel
theorem dX10_passOn_0 : decode cX10_passOn 0 = .ok (.iconst 0, 1) := by decide +kernel
theorem dX10_passOn_1 : decode cX10_passOn 1 = .ok (.istore 4, 2) := by decide +kernel
theorem dX10_passOn_3 : decode cX10_passOn 3 = .ok (.iload 4, 2) := by decide +kernel
theorem dX10_passOn_5 : decode cX10_passOn 5 = .ok (.aload_n 0, 1) := by decide +kernel
theorem dX10_passOn_6 : decode cX10_passOn 6 = .ok (.getfield 22, 3) := by decide +kernel
theorem dX10_passOn_9 : decode cX10_passOn 9 = .ok (.getfield 34, 3) := by decide +kernel
theorem dX10_passOn_12 : decode cX10_passOn 12 = .ok (.if_icmp .ge 66, 3) := by decide +kernel
theorem dX10_passOn_15 : decode cX10_passOn 15 = .ok (.iload_n 2, 1) := by decide +kernel
theorem dX10_passOn_16 : decode cX10_passOn 16 = .ok (.iload 4, 2) := by decide +kernel
theorem dX10_passOn_18 : decode cX10_passOn 18 = .ok (.invokestatic 50, 3) := by decide +kernel
theorem dX10_passOn_21 : decode cX10_passOn 21 = .ok (.istore 5, 2) := by decide +kernel
theorem dX10_passOn_23 : decode cX10_passOn 23 = .ok (.aload_n 0, 1) := by decide +kernel
theorem dX10_passOn_24 : decode cX10_passOn 24 = .ok (.getfield 12, 3) := by decide +kernel
theorem dX10_passOn_27 : decode cX10_passOn 27 = .ok (.getfield 46, 3) := by decide +kernel
theorem dX10_passOn_30 : decode cX10_passOn 30 = .ok (.iload 5, 2) := by decide +kernel
theorem dX10_passOn_32 : decode cX10_passOn 32 = .ok (.iaload, 1) := by decide +kernel
theorem dX10_passOn_33 : decode cX10_passOn 33 = .ok (.istore 6, 2) := by decide +kernel
theorem dX10_passOn_35 : decode cX10_passOn 35 = .ok (.iload 6, 2) := by decide +kernel
theorem dX10_passOn_37 : decode cX10_passOn 37 = .ok (.iconst (-1), 1) := by decide +kernel
theorem dX10_passOn_38 : decode cX10_passOn 38 = .ok (.if_icmp .eq 9, 3) := by decide +kernel
theorem dX10_passOn_41 : decode cX10_passOn 41 = .ok (.iload_n 3, 1) := by decide +kernel
theorem dX10_passOn_42 : decode cX10_passOn 42 = .ok (.iload 6, 2) := by decide +kernel
theorem dX10_passOn_44 : decode cX10_passOn 44 = .ok (.if_icmp .ge 28, 3) := by decide +kernel
theorem dX10_passOn_47 : decode cX10_passOn 47 = .ok (.aload_n 0, 1) := by decide +kernel
theorem dX10_passOn_48 : decode cX10_passOn 48 = .ok (.getfield 26, 3) := by decide +kernel
theorem dX10_passOn_51 : decode cX10_passOn 51 = .ok (.iload_n 1, 1) := by decide +kernel
theorem dX10_passOn_52 : decode cX10_passOn 52 = .ok (.iload_n 2, 1) := by decide +kernel
theorem dX10_passOn_53 : decode cX10_passOn 53 = .ok (.iload 4, 2) := by decide +kernel
theorem dX10_passOn_55 : decode cX10_passOn 55 = .ok (.invokevirtual 40, 3) := by decide +kernel
theorem dX10_passOn_58 : decode cX10_passOn 58 = .ok (.ifCond .eq 14, 3) := by decide +kernel
theorem dX10_passOn_61 : decode cX10_passOn 61 = .ok (.aload_n 0, 1) := by decide +kernel
theorem dX10_passOn_62 : decode cX10_passOn 62 = .ok (.getfield 12, 3) := by decide +kernel
theorem dX10_passOn_65 : decode cX10_passOn 65 = .ok (.getfield 46, 3) := by decide +kernel
theorem dX10_passOn_68 : decode cX10_passOn 68 = .ok (.iload 5, 2) := by decide +kernel
theorem dX10_passOn_70 : decode cX10_passOn 70 = .ok (.iload_n 3, 1) := by decide +kernel
theorem dX10_passOn_71 : decode cX10_passOn 71 = .ok (.iastore, 1) := by decide +kernel
theorem dX10_passOn_72 : decode cX10_passOn 72 = .ok (.iinc 4 1, 3) := by decide +kernel
theorem dX10_passOn_75 : decode cX10_passOn 75 = .ok (.goto (-72), 3) := by decide +kernel
theorem dX10_passOn_78 : decode cX10_passOn 78 = .ok (.return_, 1) := by decide +kernel
theorem dX10_reached_0 : decode cX10_reached 0 = .ok (.iconst 0, 1) := by decide +kernel
theorem dX10_reached_1 : decode cX10_reached 1 = .ok (.istore_n 3, 1) := by decide +kernel
theorem dX10_reached_2 : decode cX10_reached 2 = .ok (.iload_n 3, 1) := by decide +kernel
theorem dX10_reached_3 : decode cX10_reached 3 = .ok (.bipush 6, 2) := by decide +kernel
theorem dX10_reached_5 : decode cX10_reached 5 = .ok (.if_icmp .ge 16, 3) := by decide +kernel
theorem dX10_reached_8 : decode cX10_reached 8 = .ok (.aload_n 0, 1) := by decide +kernel
theorem dX10_reached_9 : decode cX10_reached 9 = .ok (.getfield 18, 3) := by decide +kernel
theorem dX10_reached_12 : decode cX10_reached 12 = .ok (.iload_n 3, 1) := by decide +kernel
theorem dX10_reached_13 : decode cX10_reached 13 = .ok (.iconst 0, 1) := by decide +kernel
theorem dX10_reached_14 : decode cX10_reached 14 = .ok (.bastore, 1) := by decide +kernel
theorem dX10_reached_15 : decode cX10_reached 15 = .ok (.iinc 3 1, 3) := by decide +kernel
theorem dX10_reached_18 : decode cX10_reached 18 = .ok (.goto (-16), 3) := by decide +kernel
theorem dX10_reached_21 : decode cX10_reached 21 = .ok (.aload_n 0, 1) := by decide +kernel
theorem dX10_reached_22 : decode cX10_reached 22 = .ok (.iload_n 1, 1) := by decide +kernel
theorem dX10_reached_23 : decode cX10_reached 23 = .ok (.iload_n 2, 1) := by decide +kernel
theorem dX10_reached_24 : decode cX10_reached 24 = .ok (.invokevirtual 64, 3) := by decide +kernel
theorem dX10_reached_27 : decode cX10_reached 27 = .ok (.iconst 1, 1) := by decide +kernel
theorem dX10_reached_28 : decode cX10_reached 28 = .ok (.istore_n 3, 1) := by decide +kernel
theorem dX10_reached_29 : decode cX10_reached 29 = .ok (.iload_n 3, 1) := by decide +kernel
theorem dX10_reached_30 : decode cX10_reached 30 = .ok (.bipush 8, 2) := by decide +kernel
theorem dX10_reached_32 : decode cX10_reached 32 = .ok (.if_icmp .gt 17, 3) := by decide +kernel
theorem dX10_reached_35 : decode cX10_reached 35 = .ok (.aload_n 0, 1) := by decide +kernel
theorem dX10_reached_36 : decode cX10_reached 36 = .ok (.invokevirtual 75, 3) := by decide +kernel
theorem dX10_reached_39 : decode cX10_reached 39 = .ok (.aload_n 0, 1) := by decide +kernel
theorem dX10_reached_40 : decode cX10_reached 40 = .ok (.invokevirtual 72, 3) := by decide +kernel
theorem dX10_reached_43 : decode cX10_reached 43 = .ok (.iinc 3 1, 3) := by decide +kernel
theorem dX10_reached_46 : decode cX10_reached 46 = .ok (.goto (-17), 3) := by decide +kernel
theorem dX10_reached_49 : decode cX10_reached 49 = .ok (.iconst 0, 1) := by decide +kernel
theorem dX10_reached_50 : decode cX10_reached 50 = .ok (.istore_n 3, 1) := by decide +kernel
theorem dX10_reached_51 : decode cX10_reached 51 = .ok (.iconst 0, 1) := by decide +kernel
theorem dX10_reached_52 : decode cX10_reached 52 = .ok (.istore 4, 2) := by decide +kernel
theorem dX10_reached_54 : decode cX10_reached 54 = .ok (.iload 4, 2) := by decide +kernel
theorem dX10_reached_56 : decode cX10_reached 56 = .ok (.bipush 6, 2) := by decide +kernel
theorem dX10_reached_58 : decode cX10_reached 58 = .ok (.if_icmp .ge 22, 3) := by decide +kernel
theorem dX10_reached_61 : decode cX10_reached 61 = .ok (.aload_n 0, 1) := by decide +kernel
theorem dX10_reached_62 : decode cX10_reached 62 = .ok (.getfield 18, 3) := by decide +kernel
theorem dX10_reached_65 : decode cX10_reached 65 = .ok (.iload 4, 2) := by decide +kernel
theorem dX10_reached_67 : decode cX10_reached 67 = .ok (.baload, 1) := by decide +kernel
theorem dX10_reached_68 : decode cX10_reached 68 = .ok (.ifCond .eq 6, 3) := by decide +kernel
theorem dX10_reached_71 : decode cX10_reached 71 = .ok (.iinc 3 1, 3) := by decide +kernel
theorem dX10_reached_74 : decode cX10_reached 74 = .ok (.iinc 4 1, 3) := by decide +kernel
theorem dX10_reached_77 : decode cX10_reached 77 = .ok (.goto (-23), 3) := by decide +kernel
theorem dX10_reached_80 : decode cX10_reached 80 = .ok (.iload_n 3, 1) := by decide +kernel
theorem dX10_reached_81 : decode cX10_reached 81 = .ok (.ireturn, 1) := by decide +kernel
theorem dX10_shortest_0 : decode cX10_shortest 0 = .ok (.aload_n 0, 1) := by decide +kernel
theorem dX10_shortest_1 : decode cX10_shortest 1 = .ok (.iload_n 1, 1) := by decide +kernel
theorem dX10_shortest_2 : decode cX10_shortest 2 = .ok (.iload_n 2, 1) := by decide +kernel
theorem dX10_shortest_3 : decode cX10_shortest 3 = .ok (.invokevirtual 64, 3) := by decide +kernel
theorem dX10_shortest_6 : decode cX10_shortest 6 = .ok (.iconst 1, 1) := by decide +kernel
theorem dX10_shortest_7 : decode cX10_shortest 7 = .ok (.istore 4, 2) := by decide +kernel
theorem dX10_shortest_9 : decode cX10_shortest 9 = .ok (.iload 4, 2) := by decide +kernel
theorem dX10_shortest_11 : decode cX10_shortest 11 = .ok (.bipush 8, 2) := by decide +kernel
theorem dX10_shortest_13 : decode cX10_shortest 13 = .ok (.if_icmp .gt 25, 3) := by decide +kernel
theorem dX10_shortest_16 : decode cX10_shortest 16 = .ok (.aload_n 0, 1) := by decide +kernel
theorem dX10_shortest_17 : decode cX10_shortest 17 = .ok (.iload_n 3, 1) := by decide +kernel
theorem dX10_shortest_18 : decode cX10_shortest 18 = .ok (.invokevirtual 68, 3) := by decide +kernel
theorem dX10_shortest_21 : decode cX10_shortest 21 = .ok (.iconst (-1), 1) := by decide +kernel
theorem dX10_shortest_22 : decode cX10_shortest 22 = .ok (.if_icmp .eq 6, 3) := by decide +kernel
theorem dX10_shortest_25 : decode cX10_shortest 25 = .ok (.iload 4, 2) := by decide +kernel
theorem dX10_shortest_27 : decode cX10_shortest 27 = .ok (.ireturn, 1) := by decide +kernel
theorem dX10_shortest_28 : decode cX10_shortest 28 = .ok (.aload_n 0, 1) := by decide +kernel
theorem dX10_shortest_29 : decode cX10_shortest 29 = .ok (.invokevirtual 72, 3) := by decide +kernel
theorem dX10_shortest_32 : decode cX10_shortest 32 = .ok (.iinc 4 1, 3) := by decide +kernel
theorem dX10_shortest_35 : decode cX10_shortest 35 = .ok (.goto (-26), 3) := by decide +kernel
theorem dX10_shortest_38 : decode cX10_shortest 38 = .ok (.iconst (-1), 1) := by decide +kernel
theorem dX10_shortest_39 : decode cX10_shortest 39 = .ok (.ireturn, 1) := by decide +kernel
theorem dX10_shortestHadMet_0 : decode cX10_shortestHadMet 0 = .ok (.aload_n 0, 1) := by decide +kernel
theorem dX10_shortestHadMet_1 : decode cX10_shortestHadMet 1 = .ok (.getfield 26, 3) := by decide +kernel
theorem dX10_shortestHadMet_4 : decode cX10_shortestHadMet 4 = .ok (.iload_n 1, 1) := by decide +kernel
theorem dX10_shortestHadMet_5 : decode cX10_shortestHadMet 5 = .ok (.iload_n 2, 1) := by decide +kernel
theorem dX10_shortestHadMet_6 : decode cX10_shortestHadMet 6 = .ok (.invokevirtual 100, 3) := by decide +kernel
theorem dX10_shortestHadMet_9 : decode cX10_shortestHadMet 9 = .ok (.aload_n 0, 1) := by decide +kernel
theorem dX10_shortestHadMet_10 : decode cX10_shortestHadMet 10 = .ok (.iload_n 3, 1) := by decide +kernel
theorem dX10_shortestHadMet_11 : decode cX10_shortestHadMet 11 = .ok (.iload 4, 2) := by decide +kernel
theorem dX10_shortestHadMet_13 : decode cX10_shortestHadMet 13 = .ok (.iload 5, 2) := by decide +kernel
theorem dX10_shortestHadMet_15 : decode cX10_shortestHadMet 15 = .ok (.invokevirtual 78, 3) := by decide +kernel
theorem dX10_shortestHadMet_18 : decode cX10_shortestHadMet 18 = .ok (.istore 6, 2) := by decide +kernel
theorem dX10_shortestHadMet_20 : decode cX10_shortestHadMet 20 = .ok (.aload_n 0, 1) := by decide +kernel
theorem dX10_shortestHadMet_21 : decode cX10_shortestHadMet 21 = .ok (.getfield 26, 3) := by decide +kernel
theorem dX10_shortestHadMet_24 : decode cX10_shortestHadMet 24 = .ok (.invokevirtual 89, 3) := by decide +kernel
theorem dX10_shortestHadMet_27 : decode cX10_shortestHadMet 27 = .ok (.iload 6, 2) := by decide +kernel
theorem dX10_shortestHadMet_29 : decode cX10_shortestHadMet 29 = .ok (.ireturn, 1) := by decide +kernel
theorem dX10_touchEnds_0 : decode cX10_touchEnds 0 = .ok (.iconst 0, 1) := by decide +kernel
theorem dX10_touchEnds_1 : decode cX10_touchEnds 1 = .ok (.istore_n 1, 1) := by decide +kernel
theorem dX10_touchEnds_2 : decode cX10_touchEnds 2 = .ok (.iload_n 1, 1) := by decide +kernel
theorem dX10_touchEnds_3 : decode cX10_touchEnds 3 = .ok (.aload_n 0, 1) := by decide +kernel
theorem dX10_touchEnds_4 : decode cX10_touchEnds 4 = .ok (.getfield 22, 3) := by decide +kernel
theorem dX10_touchEnds_7 : decode cX10_touchEnds 7 = .ok (.getfield 34, 3) := by decide +kernel
theorem dX10_touchEnds_10 : decode cX10_touchEnds 10 = .ok (.if_icmp .ge 25, 3) := by decide +kernel
theorem dX10_touchEnds_13 : decode cX10_touchEnds 13 = .ok (.aload_n 0, 1) := by decide +kernel
theorem dX10_touchEnds_14 : decode cX10_touchEnds 14 = .ok (.iload_n 1, 1) := by decide +kernel
theorem dX10_touchEnds_15 : decode cX10_touchEnds 15 = .ok (.invokevirtual 68, 3) := by decide +kernel
theorem dX10_touchEnds_18 : decode cX10_touchEnds 18 = .ok (.iconst (-1), 1) := by decide +kernel
theorem dX10_touchEnds_19 : decode cX10_touchEnds 19 = .ok (.if_icmp .eq 10, 3) := by decide +kernel
theorem dX10_touchEnds_22 : decode cX10_touchEnds 22 = .ok (.aload_n 0, 1) := by decide +kernel
theorem dX10_touchEnds_23 : decode cX10_touchEnds 23 = .ok (.getfield 18, 3) := by decide +kernel
theorem dX10_touchEnds_26 : decode cX10_touchEnds 26 = .ok (.iload_n 1, 1) := by decide +kernel
theorem dX10_touchEnds_27 : decode cX10_touchEnds 27 = .ok (.iconst 1, 1) := by decide +kernel
theorem dX10_touchEnds_28 : decode cX10_touchEnds 28 = .ok (.bastore, 1) := by decide +kernel
theorem dX10_touchEnds_29 : decode cX10_touchEnds 29 = .ok (.iinc 1 1, 3) := by decide +kernel
theorem dX10_touchEnds_32 : decode cX10_touchEnds 32 = .ok (.goto (-30), 3) := by decide +kernel
theorem dX10_touchEnds_35 : decode cX10_touchEnds 35 = .ok (.return_, 1) := by decide +kernel
theorem dX11_about_0 : decode cX11_about 0 = .ok (.aload_n 0, 1) := by decide +kernel
theorem dX11_about_1 : decode cX11_about 1 = .ok (.getfield 26, 3) := by decide +kernel
theorem dX11_about_4 : decode cX11_about 4 = .ok (.iload_n 1, 1) := by decide +kernel
theorem dX11_about_5 : decode cX11_about 5 = .ok (.invokevirtual 129, 3) := by decide +kernel
theorem dX11_about_8 : decode cX11_about 8 = .ok (.ifCond .ne 6, 3) := by decide +kernel
theorem dX11_about_11 : decode cX11_about 11 = .ok (.bipush (-101), 2) := by decide +kernel
theorem dX11_about_13 : decode cX11_about 13 = .ok (.ireturn, 1) := by decide +kernel
theorem dX11_about_14 : decode cX11_about 14 = .ok (.iload_n 2, 1) := by decide +kernel
theorem dX11_about_15 : decode cX11_about 15 = .ok (.ifCond .lt 8, 3) := by decide +kernel
theorem dX11_about_18 : decode cX11_about 18 = .ok (.iload_n 2, 1) := by decide +kernel
theorem dX11_about_19 : decode cX11_about 19 = .ok (.iconst 5, 1) := by decide +kernel
theorem dX11_about_20 : decode cX11_about 20 = .ok (.if_icmp .le 6, 3) := by decide +kernel
theorem dX11_about_23 : decode cX11_about 23 = .ok (.bipush (-102), 2) := by decide +kernel
theorem dX11_about_25 : decode cX11_about 25 = .ok (.ireturn, 1) := by decide +kernel
theorem dX11_about_26 : decode cX11_about 26 = .ok (.iload_n 2, 1) := by decide +kernel
theorem dX11_about_27 : decode cX11_about 27 = .ok (.tableswitch 87 0 4 #[33, 43, 52, 61, 70], 33) := by decide +kernel
theorem dX11_about_60 : decode cX11_about 60 = .ok (.aload_n 0, 1) := by decide +kernel
theorem dX11_about_61 : decode cX11_about 61 = .ok (.getfield 26, 3) := by decide +kernel
theorem dX11_about_64 : decode cX11_about 64 = .ok (.getfield 133, 3) := by decide +kernel
theorem dX11_about_67 : decode cX11_about 67 = .ok (.iload_n 1, 1) := by decide +kernel
theorem dX11_about_68 : decode cX11_about 68 = .ok (.iaload, 1) := by decide +kernel
theorem dX11_about_69 : decode cX11_about 69 = .ok (.ireturn, 1) := by decide +kernel
theorem dX11_about_70 : decode cX11_about 70 = .ok (.aload_n 0, 1) := by decide +kernel
theorem dX11_about_71 : decode cX11_about 71 = .ok (.getfield 58, 3) := by decide +kernel
theorem dX11_about_74 : decode cX11_about 74 = .ok (.iload_n 1, 1) := by decide +kernel
theorem dX11_about_75 : decode cX11_about 75 = .ok (.invokevirtual 137, 3) := by decide +kernel
theorem dX11_about_78 : decode cX11_about 78 = .ok (.ireturn, 1) := by decide +kernel
theorem dX11_about_79 : decode cX11_about 79 = .ok (.aload_n 0, 1) := by decide +kernel
theorem dX11_about_80 : decode cX11_about 80 = .ok (.getfield 58, 3) := by decide +kernel
theorem dX11_about_83 : decode cX11_about 83 = .ok (.iload_n 1, 1) := by decide +kernel
theorem dX11_about_84 : decode cX11_about 84 = .ok (.invokevirtual 140, 3) := by decide +kernel
theorem dX11_about_87 : decode cX11_about 87 = .ok (.ireturn, 1) := by decide +kernel
theorem dX11_about_88 : decode cX11_about 88 = .ok (.aload_n 0, 1) := by decide +kernel
theorem dX11_about_89 : decode cX11_about 89 = .ok (.getfield 58, 3) := by decide +kernel
theorem dX11_about_92 : decode cX11_about 92 = .ok (.iload_n 1, 1) := by decide +kernel
theorem dX11_about_93 : decode cX11_about 93 = .ok (.invokevirtual 143, 3) := by decide +kernel
theorem dX11_about_96 : decode cX11_about 96 = .ok (.ireturn, 1) := by decide +kernel
theorem dX11_about_97 : decode cX11_about 97 = .ok (.aload_n 0, 1) := by decide +kernel
theorem dX11_about_98 : decode cX11_about 98 = .ok (.getfield 58, 3) := by decide +kernel
theorem dX11_about_101 : decode cX11_about 101 = .ok (.iload_n 1, 1) := by decide +kernel
theorem dX11_about_102 : decode cX11_about 102 = .ok (.aload_n 0, 1) := by decide +kernel
theorem dX11_about_103 : decode cX11_about 103 = .ok (.getfield 26, 3) := by decide +kernel
theorem dX11_about_106 : decode cX11_about 106 = .ok (.iload_n 1, 1) := by decide +kernel
theorem dX11_about_107 : decode cX11_about 107 = .ok (.invokevirtual 146, 3) := by decide +kernel
theorem dX11_about_110 : decode cX11_about 110 = .ok (.invokevirtual 149, 3) := by decide +kernel
theorem dX11_about_113 : decode cX11_about 113 = .ok (.ireturn, 1) := by decide +kernel
theorem dX11_about_114 : decode cX11_about 114 = .ok (.aload_n 0, 1) := by decide +kernel
theorem dX11_about_115 : decode cX11_about 115 = .ok (.getfield 26, 3) := by decide +kernel
theorem dX11_about_118 : decode cX11_about 118 = .ok (.iload_n 1, 1) := by decide +kernel
theorem dX11_about_119 : decode cX11_about 119 = .ok (.invokevirtual 146, 3) := by decide +kernel
theorem dX11_about_122 : decode cX11_about 122 = .ok (.ireturn, 1) := by decide +kernel
theorem dX11_as_0 : decode cX11_as 0 = .ok (.aload_n 0, 1) := by decide +kernel
theorem dX11_as_1 : decode cX11_as 1 = .ok (.getfield 26, 3) := by decide +kernel
theorem dX11_as_4 : decode cX11_as 4 = .ok (.iload_n 1, 1) := by decide +kernel
theorem dX11_as_5 : decode cX11_as 5 = .ok (.invokevirtual 129, 3) := by decide +kernel
theorem dX11_as_8 : decode cX11_as 8 = .ok (.ifCond .ne 6, 3) := by decide +kernel
theorem dX11_as_11 : decode cX11_as 11 = .ok (.bipush (-101), 2) := by decide +kernel
theorem dX11_as_13 : decode cX11_as 13 = .ok (.ireturn, 1) := by decide +kernel
theorem dX11_as_14 : decode cX11_as 14 = .ok (.iload_n 2, 1) := by decide +kernel
theorem dX11_as_15 : decode cX11_as 15 = .ok (.ifCond .lt 8, 3) := by decide +kernel
theorem dX11_as_18 : decode cX11_as 18 = .ok (.iload_n 2, 1) := by decide +kernel
theorem dX11_as_19 : decode cX11_as 19 = .ok (.iconst 4, 1) := by decide +kernel
theorem dX11_as_20 : decode cX11_as 20 = .ok (.if_icmp .le 6, 3) := by decide +kernel
theorem dX11_as_23 : decode cX11_as 23 = .ok (.bipush (-102), 2) := by decide +kernel
theorem dX11_as_25 : decode cX11_as 25 = .ok (.ireturn, 1) := by decide +kernel
theorem dX11_as_26 : decode cX11_as 26 = .ok (.aload_n 0, 1) := by decide +kernel
theorem dX11_as_27 : decode cX11_as 27 = .ok (.getfield 26, 3) := by decide +kernel
theorem dX11_as_30 : decode cX11_as 30 = .ok (.iload_n 1, 1) := by decide +kernel
theorem dX11_as_31 : decode cX11_as 31 = .ok (.iload_n 2, 1) := by decide +kernel
theorem dX11_as_32 : decode cX11_as 32 = .ok (.invokevirtual 153, 3) := by decide +kernel
theorem dX11_as_35 : decode cX11_as 35 = .ok (.ifCond .eq 7, 3) := by decide +kernel
theorem dX11_as_38 : decode cX11_as 38 = .ok (.iload_n 1, 1) := by decide +kernel
theorem dX11_as_39 : decode cX11_as 39 = .ok (.goto 4, 3) := by decide +kernel
theorem dX11_as_42 : decode cX11_as 42 = .ok (.iconst (-1), 1) := by decide +kernel
theorem dX11_as_43 : decode cX11_as 43 = .ok (.ireturn, 1) := by decide +kernel
theorem dX11_bars_0 : decode cX11_bars 0 = .ok (.aload_n 0, 1) := by decide +kernel
theorem dX11_bars_1 : decode cX11_bars 1 = .ok (.getfield 58, 3) := by decide +kernel
theorem dX11_bars_4 : decode cX11_bars 4 = .ok (.iload_n 1, 1) := by decide +kernel
theorem dX11_bars_5 : decode cX11_bars 5 = .ok (.invokevirtual 156, 3) := by decide +kernel
theorem dX11_bars_8 : decode cX11_bars 8 = .ok (.ifCond .eq 14, 3) := by decide +kernel
theorem dX11_bars_11 : decode cX11_bars 11 = .ok (.aload_n 0, 1) := by decide +kernel
theorem dX11_bars_12 : decode cX11_bars 12 = .ok (.getfield 26, 3) := by decide +kernel
theorem dX11_bars_15 : decode cX11_bars 15 = .ok (.iload_n 2, 1) := by decide +kernel
theorem dX11_bars_16 : decode cX11_bars 16 = .ok (.invokevirtual 129, 3) := by decide +kernel
theorem dX11_bars_19 : decode cX11_bars 19 = .ok (.ifCond .ne 6, 3) := by decide +kernel
theorem dX11_bars_22 : decode cX11_bars 22 = .ok (.bipush (-101), 2) := by decide +kernel
theorem dX11_bars_24 : decode cX11_bars 24 = .ok (.ireturn, 1) := by decide +kernel
theorem dX11_bars_25 : decode cX11_bars 25 = .ok (.aload_n 0, 1) := by decide +kernel
theorem dX11_bars_26 : decode cX11_bars 26 = .ok (.getfield 58, 3) := by decide +kernel
theorem dX11_bars_29 : decode cX11_bars 29 = .ok (.iload_n 1, 1) := by decide +kernel
theorem dX11_bars_30 : decode cX11_bars 30 = .ok (.invokevirtual 200, 3) := by decide +kernel
theorem dX11_bars_33 : decode cX11_bars 33 = .ok (.ifCond .ne 6, 3) := by decide +kernel
theorem dX11_bars_36 : decode cX11_bars 36 = .ok (.bipush (-103), 2) := by decide +kernel
theorem dX11_bars_38 : decode cX11_bars 38 = .ok (.ireturn, 1) := by decide +kernel
theorem dX11_bars_39 : decode cX11_bars 39 = .ok (.aload_n 0, 1) := by decide +kernel
theorem dX11_bars_40 : decode cX11_bars 40 = .ok (.getfield 44, 3) := by decide +kernel
theorem dX11_bars_43 : decode cX11_bars 43 = .ok (.aload_n 0, 1) := by decide +kernel
theorem dX11_bars_44 : decode cX11_bars 44 = .ok (.getfield 58, 3) := by decide +kernel
theorem dX11_bars_47 : decode cX11_bars 47 = .ok (.getfield 170, 3) := by decide +kernel
theorem dX11_bars_50 : decode cX11_bars 50 = .ok (.iload_n 1, 1) := by decide +kernel
theorem dX11_bars_51 : decode cX11_bars 51 = .ok (.iaload, 1) := by decide +kernel
theorem dX11_bars_52 : decode cX11_bars 52 = .ok (.aload_n 0, 1) := by decide +kernel
theorem dX11_bars_53 : decode cX11_bars 53 = .ok (.getfield 58, 3) := by decide +kernel
theorem dX11_bars_56 : decode cX11_bars 56 = .ok (.getfield 173, 3) := by decide +kernel
theorem dX11_bars_59 : decode cX11_bars 59 = .ok (.iload_n 1, 1) := by decide +kernel
theorem dX11_bars_60 : decode cX11_bars 60 = .ok (.iaload, 1) := by decide +kernel
theorem dX11_bars_61 : decode cX11_bars 61 = .ok (.iload_n 2, 1) := by decide +kernel
theorem dX11_bars_62 : decode cX11_bars 62 = .ok (.invokevirtual 213, 3) := by decide +kernel
theorem dX11_bars_65 : decode cX11_bars 65 = .ok (.ireturn, 1) := by decide +kernel
theorem dX11_between_0 : decode cX11_between 0 = .ok (.aload_n 0, 1) := by decide +kernel
theorem dX11_between_1 : decode cX11_between 1 = .ok (.getfield 26, 3) := by decide +kernel
theorem dX11_between_4 : decode cX11_between 4 = .ok (.iload_n 1, 1) := by decide +kernel
theorem dX11_between_5 : decode cX11_between 5 = .ok (.iload_n 2, 1) := by decide +kernel
theorem dX11_between_6 : decode cX11_between 6 = .ok (.invokevirtual 112, 3) := by decide +kernel
theorem dX11_between_9 : decode cX11_between 9 = .ok (.ifCond .ne 6, 3) := by decide +kernel
theorem dX11_between_12 : decode cX11_between 12 = .ok (.bipush (-101), 2) := by decide +kernel
theorem dX11_between_14 : decode cX11_between 14 = .ok (.ireturn, 1) := by decide +kernel
theorem dX11_between_15 : decode cX11_between 15 = .ok (.aload_n 0, 1) := by decide +kernel
theorem dX11_between_16 : decode cX11_between 16 = .ok (.getfield 26, 3) := by decide +kernel
theorem dX11_between_19 : decode cX11_between 19 = .ok (.iload_n 1, 1) := by decide +kernel
theorem dX11_between_20 : decode cX11_between 20 = .ok (.iload_n 2, 1) := by decide +kernel
theorem dX11_between_21 : decode cX11_between 21 = .ok (.invokevirtual 116, 3) := by decide +kernel
theorem dX11_between_24 : decode cX11_between 24 = .ok (.ifCond .eq 5, 3) := by decide +kernel
theorem dX11_between_27 : decode cX11_between 27 = .ok (.iconst 3, 1) := by decide +kernel
theorem dX11_between_28 : decode cX11_between 28 = .ok (.ireturn, 1) := by decide +kernel
theorem dX11_between_29 : decode cX11_between 29 = .ok (.aload_n 0, 1) := by decide +kernel
theorem dX11_between_30 : decode cX11_between 30 = .ok (.getfield 26, 3) := by decide +kernel
theorem dX11_between_33 : decode cX11_between 33 = .ok (.iload_n 1, 1) := by decide +kernel
theorem dX11_between_34 : decode cX11_between 34 = .ok (.iload_n 2, 1) := by decide +kernel
theorem dX11_between_35 : decode cX11_between 35 = .ok (.invokevirtual 119, 3) := by decide +kernel
theorem dX11_between_38 : decode cX11_between 38 = .ok (.ifCond .eq 7, 3) := by decide +kernel
theorem dX11_between_41 : decode cX11_between 41 = .ok (.iconst 2, 1) := by decide +kernel
theorem dX11_between_42 : decode cX11_between 42 = .ok (.goto 4, 3) := by decide +kernel
theorem dX11_between_45 : decode cX11_between 45 = .ok (.iconst 0, 1) := by decide +kernel
theorem dX11_between_46 : decode cX11_between 46 = .ok (.ireturn, 1) := by decide +kernel
theorem dX11_blank_0 : decode cX11_blank 0 = .ok (.aload_n 0, 1) := by decide +kernel
theorem dX11_blank_1 : decode cX11_blank 1 = .ok (.getfield 10, 3) := by decide +kernel
theorem dX11_blank_4 : decode cX11_blank 4 = .ok (.getfield 78, 3) := by decide +kernel
theorem dX11_blank_7 : decode cX11_blank 7 = .ok (.istore_n 1, 1) := by decide +kernel
theorem dX11_blank_8 : decode cX11_blank 8 = .ok (.aload_n 0, 1) := by decide +kernel
theorem dX11_blank_9 : decode cX11_blank 9 = .ok (.getfield 10, 3) := by decide +kernel
theorem dX11_blank_12 : decode cX11_blank 12 = .ok (.iconst 0, 1) := by decide +kernel
theorem dX11_blank_13 : decode cX11_blank 13 = .ok (.putfield 78, 3) := by decide +kernel
theorem dX11_blank_16 : decode cX11_blank 16 = .ok (.iload_n 1, 1) := by decide +kernel
theorem dX11_blank_17 : decode cX11_blank 17 = .ok (.ireturn, 1) := by decide +kernel
theorem dX11_count_0 : decode cX11_count 0 = .ok (.iload_n 1, 1) := by decide +kernel
theorem dX11_count_1 : decode cX11_count 1 = .ok (.tableswitch 150 0 10 #[59, 70, 81, 89, 97, 105, 113, 121, 129, 137, 145], 59) := by decide +kernel
theorem dX11_count_60 : decode cX11_count 60 = .ok (.aload_n 0, 1) := by decide +kernel
theorem dX11_count_61 : decode cX11_count 61 = .ok (.getfield 26, 3) := by decide +kernel
theorem dX11_count_64 : decode cX11_count 64 = .ok (.getfield 105, 3) := by decide +kernel
theorem dX11_count_67 : decode cX11_count 67 = .ok (.getfield 109, 3) := by decide +kernel
theorem dX11_count_70 : decode cX11_count 70 = .ok (.ireturn, 1) := by decide +kernel
theorem dX11_count_71 : decode cX11_count 71 = .ok (.aload_n 0, 1) := by decide +kernel
theorem dX11_count_72 : decode cX11_count 72 = .ok (.getfield 26, 3) := by decide +kernel
theorem dX11_count_75 : decode cX11_count 75 = .ok (.getfield 273, 3) := by decide +kernel
theorem dX11_count_78 : decode cX11_count 78 = .ok (.getfield 109, 3) := by decide +kernel
theorem dX11_count_81 : decode cX11_count 81 = .ok (.ireturn, 1) := by decide +kernel
theorem dX11_count_82 : decode cX11_count 82 = .ok (.aload_n 0, 1) := by decide +kernel
theorem dX11_count_83 : decode cX11_count 83 = .ok (.getfield 26, 3) := by decide +kernel
theorem dX11_count_86 : decode cX11_count 86 = .ok (.getfield 276, 3) := by decide +kernel
theorem dX11_count_89 : decode cX11_count 89 = .ok (.ireturn, 1) := by decide +kernel
theorem dX11_count_90 : decode cX11_count 90 = .ok (.aload_n 0, 1) := by decide +kernel
theorem dX11_count_91 : decode cX11_count 91 = .ok (.getfield 26, 3) := by decide +kernel
theorem dX11_count_94 : decode cX11_count 94 = .ok (.getfield 122, 3) := by decide +kernel
theorem dX11_count_97 : decode cX11_count 97 = .ok (.ireturn, 1) := by decide +kernel
theorem dX11_count_98 : decode cX11_count 98 = .ok (.aload_n 0, 1) := by decide +kernel
theorem dX11_count_99 : decode cX11_count 99 = .ok (.getfield 58, 3) := by decide +kernel
theorem dX11_count_102 : decode cX11_count 102 = .ok (.getfield 243, 3) := by decide +kernel
theorem dX11_count_105 : decode cX11_count 105 = .ok (.ireturn, 1) := by decide +kernel
theorem dX11_count_106 : decode cX11_count 106 = .ok (.aload_n 0, 1) := by decide +kernel
theorem dX11_count_107 : decode cX11_count 107 = .ok (.getfield 58, 3) := by decide +kernel
theorem dX11_count_110 : decode cX11_count 110 = .ok (.invokevirtual 244, 3) := by decide +kernel
theorem dX11_count_113 : decode cX11_count 113 = .ok (.ireturn, 1) := by decide +kernel
theorem dX11_count_114 : decode cX11_count 114 = .ok (.aload_n 0, 1) := by decide +kernel
theorem dX11_count_115 : decode cX11_count 115 = .ok (.getfield 58, 3) := by decide +kernel
theorem dX11_count_118 : decode cX11_count 118 = .ok (.getfield 197, 3) := by decide +kernel
theorem dX11_count_121 : decode cX11_count 121 = .ok (.ireturn, 1) := by decide +kernel
theorem dX11_count_122 : decode cX11_count 122 = .ok (.aload_n 0, 1) := by decide +kernel
theorem dX11_count_123 : decode cX11_count 123 = .ok (.getfield 58, 3) := by decide +kernel
theorem dX11_count_126 : decode cX11_count 126 = .ok (.invokevirtual 248, 3) := by decide +kernel
theorem dX11_count_129 : decode cX11_count 129 = .ok (.ireturn, 1) := by decide +kernel
theorem dX11_count_130 : decode cX11_count 130 = .ok (.aload_n 0, 1) := by decide +kernel
theorem dX11_count_131 : decode cX11_count 131 = .ok (.getfield 68, 3) := by decide +kernel
theorem dX11_count_134 : decode cX11_count 134 = .ok (.getfield 101, 3) := by decide +kernel
theorem dX11_count_137 : decode cX11_count 137 = .ok (.ireturn, 1) := by decide +kernel
theorem dX11_count_138 : decode cX11_count 138 = .ok (.aload_n 0, 1) := by decide +kernel
theorem dX11_count_139 : decode cX11_count 139 = .ok (.getfield 10, 3) := by decide +kernel
theorem dX11_count_142 : decode cX11_count 142 = .ok (.getfield 78, 3) := by decide +kernel
theorem dX11_count_145 : decode cX11_count 145 = .ok (.ireturn, 1) := by decide +kernel
theorem dX11_count_146 : decode cX11_count 146 = .ok (.aload_n 0, 1) := by decide +kernel
theorem dX11_count_147 : decode cX11_count 147 = .ok (.getfield 102, 3) := by decide +kernel
theorem dX11_count_150 : decode cX11_count 150 = .ok (.ireturn, 1) := by decide +kernel
theorem dX11_count_151 : decode cX11_count 151 = .ok (.bipush (-102), 2) := by decide +kernel
theorem dX11_count_153 : decode cX11_count 153 = .ok (.ireturn, 1) := by decide +kernel
theorem dX11_deed_0 : decode cX11_deed 0 = .ok (.aload_n 0, 1) := by decide +kernel
theorem dX11_deed_1 : decode cX11_deed 1 = .ok (.getfield 58, 3) := by decide +kernel
theorem dX11_deed_4 : decode cX11_deed 4 = .ok (.iload_n 1, 1) := by decide +kernel
theorem dX11_deed_5 : decode cX11_deed 5 = .ok (.invokevirtual 156, 3) := by decide +kernel
theorem dX11_deed_8 : decode cX11_deed 8 = .ok (.ifCond .ne 6, 3) := by decide +kernel
theorem dX11_deed_11 : decode cX11_deed 11 = .ok (.bipush (-101), 2) := by decide +kernel
theorem dX11_deed_13 : decode cX11_deed 13 = .ok (.ireturn, 1) := by decide +kernel
theorem dX11_deed_14 : decode cX11_deed 14 = .ok (.iload_n 2, 1) := by decide +kernel
theorem dX11_deed_15 : decode cX11_deed 15 = .ok (.ifCond .lt 9, 3) := by decide +kernel
theorem dX11_deed_18 : decode cX11_deed 18 = .ok (.iload_n 2, 1) := by decide +kernel
theorem dX11_deed_19 : decode cX11_deed 19 = .ok (.bipush 7, 2) := by decide +kernel
theorem dX11_deed_21 : decode cX11_deed 21 = .ok (.if_icmp .le 6, 3) := by decide +kernel
theorem dX11_deed_24 : decode cX11_deed 24 = .ok (.bipush (-102), 2) := by decide +kernel
theorem dX11_deed_26 : decode cX11_deed 26 = .ok (.ireturn, 1) := by decide +kernel
theorem dX11_deed_27 : decode cX11_deed 27 = .ok (.iload_n 2, 1) := by decide +kernel
theorem dX11_deed_28 : decode cX11_deed 28 = .ok (.tableswitch 113 0 6 #[44, 54, 64, 74, 84, 94, 104], 44) := by decide +kernel
theorem dX11_deed_72 : decode cX11_deed 72 = .ok (.aload_n 0, 1) := by decide +kernel
theorem dX11_deed_73 : decode cX11_deed 73 = .ok (.getfield 58, 3) := by decide +kernel
theorem dX11_deed_76 : decode cX11_deed 76 = .ok (.getfield 170, 3) := by decide +kernel
theorem dX11_deed_79 : decode cX11_deed 79 = .ok (.iload_n 1, 1) := by decide +kernel
theorem dX11_deed_80 : decode cX11_deed 80 = .ok (.iaload, 1) := by decide +kernel
theorem dX11_deed_81 : decode cX11_deed 81 = .ok (.ireturn, 1) := by decide +kernel
theorem dX11_deed_82 : decode cX11_deed 82 = .ok (.aload_n 0, 1) := by decide +kernel
theorem dX11_deed_83 : decode cX11_deed 83 = .ok (.getfield 58, 3) := by decide +kernel
theorem dX11_deed_86 : decode cX11_deed 86 = .ok (.getfield 173, 3) := by decide +kernel
theorem dX11_deed_89 : decode cX11_deed 89 = .ok (.iload_n 1, 1) := by decide +kernel
theorem dX11_deed_90 : decode cX11_deed 90 = .ok (.iaload, 1) := by decide +kernel
theorem dX11_deed_91 : decode cX11_deed 91 = .ok (.ireturn, 1) := by decide +kernel
theorem dX11_deed_92 : decode cX11_deed 92 = .ok (.aload_n 0, 1) := by decide +kernel
theorem dX11_deed_93 : decode cX11_deed 93 = .ok (.getfield 58, 3) := by decide +kernel
theorem dX11_deed_96 : decode cX11_deed 96 = .ok (.getfield 176, 3) := by decide +kernel
theorem dX11_deed_99 : decode cX11_deed 99 = .ok (.iload_n 1, 1) := by decide +kernel
theorem dX11_deed_100 : decode cX11_deed 100 = .ok (.iaload, 1) := by decide +kernel
theorem dX11_deed_101 : decode cX11_deed 101 = .ok (.ireturn, 1) := by decide +kernel
theorem dX11_deed_102 : decode cX11_deed 102 = .ok (.aload_n 0, 1) := by decide +kernel
theorem dX11_deed_103 : decode cX11_deed 103 = .ok (.getfield 58, 3) := by decide +kernel
theorem dX11_deed_106 : decode cX11_deed 106 = .ok (.getfield 179, 3) := by decide +kernel
theorem dX11_deed_109 : decode cX11_deed 109 = .ok (.iload_n 1, 1) := by decide +kernel
theorem dX11_deed_110 : decode cX11_deed 110 = .ok (.iaload, 1) := by decide +kernel
theorem dX11_deed_111 : decode cX11_deed 111 = .ok (.ireturn, 1) := by decide +kernel
theorem dX11_deed_112 : decode cX11_deed 112 = .ok (.aload_n 0, 1) := by decide +kernel
theorem dX11_deed_113 : decode cX11_deed 113 = .ok (.getfield 58, 3) := by decide +kernel
theorem dX11_deed_116 : decode cX11_deed 116 = .ok (.getfield 182, 3) := by decide +kernel
theorem dX11_deed_119 : decode cX11_deed 119 = .ok (.iload_n 1, 1) := by decide +kernel
theorem dX11_deed_120 : decode cX11_deed 120 = .ok (.iaload, 1) := by decide +kernel
theorem dX11_deed_121 : decode cX11_deed 121 = .ok (.ireturn, 1) := by decide +kernel
theorem dX11_deed_122 : decode cX11_deed 122 = .ok (.aload_n 0, 1) := by decide +kernel
theorem dX11_deed_123 : decode cX11_deed 123 = .ok (.getfield 58, 3) := by decide +kernel
theorem dX11_deed_126 : decode cX11_deed 126 = .ok (.getfield 185, 3) := by decide +kernel
theorem dX11_deed_129 : decode cX11_deed 129 = .ok (.iload_n 1, 1) := by decide +kernel
theorem dX11_deed_130 : decode cX11_deed 130 = .ok (.iaload, 1) := by decide +kernel
theorem dX11_deed_131 : decode cX11_deed 131 = .ok (.ireturn, 1) := by decide +kernel
theorem dX11_deed_132 : decode cX11_deed 132 = .ok (.aload_n 0, 1) := by decide +kernel
theorem dX11_deed_133 : decode cX11_deed 133 = .ok (.getfield 58, 3) := by decide +kernel
theorem dX11_deed_136 : decode cX11_deed 136 = .ok (.iload_n 1, 1) := by decide +kernel
theorem dX11_deed_137 : decode cX11_deed 137 = .ok (.invokevirtual 188, 3) := by decide +kernel
theorem dX11_deed_140 : decode cX11_deed 140 = .ok (.ireturn, 1) := by decide +kernel
theorem dX11_deed_141 : decode cX11_deed 141 = .ok (.aload_n 0, 1) := by decide +kernel
theorem dX11_deed_142 : decode cX11_deed 142 = .ok (.getfield 58, 3) := by decide +kernel
theorem dX11_deed_145 : decode cX11_deed 145 = .ok (.aload_n 0, 1) := by decide +kernel
theorem dX11_deed_146 : decode cX11_deed 146 = .ok (.getfield 58, 3) := by decide +kernel
theorem dX11_deed_149 : decode cX11_deed 149 = .ok (.iload_n 1, 1) := by decide +kernel
theorem dX11_deed_150 : decode cX11_deed 150 = .ok (.invokevirtual 191, 3) := by decide +kernel
theorem dX11_deed_153 : decode cX11_deed 153 = .ok (.invokevirtual 194, 3) := by decide +kernel
theorem dX11_deed_156 : decode cX11_deed 156 = .ok (.ifCond .eq 7, 3) := by decide +kernel
theorem dX11_deed_159 : decode cX11_deed 159 = .ok (.iconst 1, 1) := by decide +kernel
theorem dX11_deed_160 : decode cX11_deed 160 = .ok (.goto 4, 3) := by decide +kernel
theorem dX11_deed_163 : decode cX11_deed 163 = .ok (.iconst 0, 1) := by decide +kernel
theorem dX11_deed_164 : decode cX11_deed 164 = .ok (.ireturn, 1) := by decide +kernel
theorem dX11_digest_0 : decode cX11_digest 0 = .ok (.ldc2_w 279, 3) := by decide +kernel
theorem dX11_digest_3 : decode cX11_digest 3 = .ok (.lstore_n 1, 1) := by decide +kernel
theorem dX11_digest_4 : decode cX11_digest 4 = .ok (.iconst 0, 1) := by decide +kernel
theorem dX11_digest_5 : decode cX11_digest 5 = .ok (.istore_n 3, 1) := by decide +kernel
theorem dX11_digest_6 : decode cX11_digest 6 = .ok (.iload_n 3, 1) := by decide +kernel
theorem dX11_digest_7 : decode cX11_digest 7 = .ok (.aload_n 0, 1) := by decide +kernel
theorem dX11_digest_8 : decode cX11_digest 8 = .ok (.getfield 26, 3) := by decide +kernel
theorem dX11_digest_11 : decode cX11_digest 11 = .ok (.getfield 122, 3) := by decide +kernel
theorem dX11_digest_14 : decode cX11_digest 14 = .ok (.if_icmp .ge 16, 3) := by decide +kernel
theorem dX11_digest_17 : decode cX11_digest 17 = .ok (.aload_n 0, 1) := by decide +kernel
theorem dX11_digest_18 : decode cX11_digest 18 = .ok (.lload_n 1, 1) := by decide +kernel
theorem dX11_digest_19 : decode cX11_digest 19 = .ok (.iload_n 3, 1) := by decide +kernel
theorem dX11_digest_20 : decode cX11_digest 20 = .ok (.invokevirtual 281, 3) := by decide +kernel
theorem dX11_digest_23 : decode cX11_digest 23 = .ok (.lstore_n 1, 1) := by decide +kernel
theorem dX11_digest_24 : decode cX11_digest 24 = .ok (.iinc 3 1, 3) := by decide +kernel
theorem dX11_digest_27 : decode cX11_digest 27 = .ok (.goto (-21), 3) := by decide +kernel
theorem dX11_digest_30 : decode cX11_digest 30 = .ok (.iconst 0, 1) := by decide +kernel
theorem dX11_digest_31 : decode cX11_digest 31 = .ok (.istore_n 3, 1) := by decide +kernel
theorem dX11_digest_32 : decode cX11_digest 32 = .ok (.iload_n 3, 1) := by decide +kernel
theorem dX11_digest_33 : decode cX11_digest 33 = .ok (.aload_n 0, 1) := by decide +kernel
theorem dX11_digest_34 : decode cX11_digest 34 = .ok (.getfield 58, 3) := by decide +kernel
theorem dX11_digest_37 : decode cX11_digest 37 = .ok (.getfield 243, 3) := by decide +kernel
theorem dX11_digest_40 : decode cX11_digest 40 = .ok (.if_icmp .ge 16, 3) := by decide +kernel
theorem dX11_digest_43 : decode cX11_digest 43 = .ok (.aload_n 0, 1) := by decide +kernel
theorem dX11_digest_44 : decode cX11_digest 44 = .ok (.lload_n 1, 1) := by decide +kernel
theorem dX11_digest_45 : decode cX11_digest 45 = .ok (.iload_n 3, 1) := by decide +kernel
theorem dX11_digest_46 : decode cX11_digest 46 = .ok (.invokevirtual 285, 3) := by decide +kernel
theorem dX11_digest_49 : decode cX11_digest 49 = .ok (.lstore_n 1, 1) := by decide +kernel
theorem dX11_digest_50 : decode cX11_digest 50 = .ok (.iinc 3 1, 3) := by decide +kernel
theorem dX11_digest_53 : decode cX11_digest 53 = .ok (.goto (-21), 3) := by decide +kernel
theorem dX11_digest_56 : decode cX11_digest 56 = .ok (.lload_n 1, 1) := by decide +kernel
theorem dX11_digest_57 : decode cX11_digest 57 = .ok (.aload_n 0, 1) := by decide +kernel
theorem dX11_digest_58 : decode cX11_digest 58 = .ok (.invokevirtual 288, 3) := by decide +kernel
theorem dX11_digest_61 : decode cX11_digest 61 = .ok (.invokestatic 291, 3) := by decide +kernel
theorem dX11_digest_64 : decode cX11_digest 64 = .ok (.lstore_n 1, 1) := by decide +kernel
theorem dX11_digest_65 : decode cX11_digest 65 = .ok (.iconst 0, 1) := by decide +kernel
theorem dX11_digest_66 : decode cX11_digest 66 = .ok (.istore_n 3, 1) := by decide +kernel
theorem dX11_digest_67 : decode cX11_digest 67 = .ok (.iload_n 3, 1) := by decide +kernel
theorem dX11_digest_68 : decode cX11_digest 68 = .ok (.aload_n 0, 1) := by decide +kernel
theorem dX11_digest_69 : decode cX11_digest 69 = .ok (.getfield 10, 3) := by decide +kernel
theorem dX11_digest_72 : decode cX11_digest 72 = .ok (.getfield 78, 3) := by decide +kernel
theorem dX11_digest_75 : decode cX11_digest 75 = .ok (.if_icmp .ge 23, 3) := by decide +kernel
theorem dX11_digest_78 : decode cX11_digest 78 = .ok (.lload_n 1, 1) := by decide +kernel
theorem dX11_digest_79 : decode cX11_digest 79 = .ok (.aload_n 0, 1) := by decide +kernel
theorem dX11_digest_80 : decode cX11_digest 80 = .ok (.getfield 10, 3) := by decide +kernel
theorem dX11_digest_83 : decode cX11_digest 83 = .ok (.getfield 294, 3) := by decide +kernel
theorem dX11_digest_86 : decode cX11_digest 86 = .ok (.iload_n 3, 1) := by decide +kernel
theorem dX11_digest_87 : decode cX11_digest 87 = .ok (.iaload, 1) := by decide +kernel
theorem dX11_digest_88 : decode cX11_digest 88 = .ok (.invokestatic 291, 3) := by decide +kernel
