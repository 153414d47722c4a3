theorem dX11_digest_91 : decode cX11_digest 91 = .ok (.lstore_n 1, 1) := by decide +kernel
theorem dX11_digest_92 : decode cX11_digest 92 = .ok (.iinc 3 1, 3) := by decide +kernel
theorem dX11_digest_95 : decode cX11_digest 95 = .ok (.goto (-28), 3) := by decide +kernel
theorem dX11_digest_98 : decode cX11_digest 98 = .ok (.iconst 0, 1) := by decide +kernel
theorem dX11_digest_99 : decode cX11_digest 99 = .ok (.istore_n 3, 1) := by decide +kernel
theorem dX11_digest_100 : decode cX11_digest 100 = .ok (.iload_n 3, 1) := by decide +kernel
theorem dX11_digest_101 : decode cX11_digest 101 = .ok (.bipush 10, 2) := by decide +kernel
theorem dX11_digest_103 : decode cX11_digest 103 = .ok (.if_icmp .gt 19, 3) := by decide +kernel
theorem dX11_digest_106 : decode cX11_digest 106 = .ok (.lload_n 1, 1) := by decide +kernel
theorem dX11_digest_107 : decode cX11_digest 107 = .ok (.aload_n 0, 1) := by decide +kernel
theorem dX11_digest_108 : decode cX11_digest 108 = .ok (.iload_n 3, 1) := by decide +kernel
theorem dX11_digest_109 : decode cX11_digest 109 = .ok (.invokevirtual 297, 3) := by decide +kernel
theorem dX11_digest_112 : decode cX11_digest 112 = .ok (.invokestatic 291, 3) := by decide +kernel
theorem dX11_digest_115 : decode cX11_digest 115 = .ok (.lstore_n 1, 1) := by decide +kernel
theorem dX11_digest_116 : decode cX11_digest 116 = .ok (.iinc 3 1, 3) := by decide +kernel
theorem dX11_digest_119 : decode cX11_digest 119 = .ok (.goto (-19), 3) := by decide +kernel
theorem dX11_digest_122 : decode cX11_digest 122 = .ok (.lload_n 1, 1) := by decide +kernel
theorem dX11_digest_123 : decode cX11_digest 123 = .ok (.lreturn, 1) := by decide +kernel
theorem dX11_fault_0 : decode cX11_fault 0 = .ok (.aload_n 0, 1) := by decide +kernel
theorem dX11_fault_1 : decode cX11_fault 1 = .ok (.getfield 19, 3) := by decide +kernel
theorem dX11_fault_4 : decode cX11_fault 4 = .ok (.aload_n 0, 1) := by decide +kernel
theorem dX11_fault_5 : decode cX11_fault 5 = .ok (.getfield 10, 3) := by decide +kernel
theorem dX11_fault_8 : decode cX11_fault 8 = .ok (.invokevirtual 86, 3) := by decide +kernel
theorem dX11_fault_11 : decode cX11_fault 11 = .ok (.ireturn, 1) := by decide +kernel
theorem dX11_favour_0 : decode cX11_favour 0 = .ok (.aload_n 0, 1) := by decide +kernel
theorem dX11_favour_1 : decode cX11_favour 1 = .ok (.iload_n 1, 1) := by decide +kernel
theorem dX11_favour_2 : decode cX11_favour 2 = .ok (.iload_n 2, 1) := by decide +kernel
theorem dX11_favour_3 : decode cX11_favour 3 = .ok (.iload_n 3, 1) := by decide +kernel
theorem dX11_favour_4 : decode cX11_favour 4 = .ok (.iload 4, 2) := by decide +kernel
theorem dX11_favour_6 : decode cX11_favour 6 = .ok (.invokevirtual 161, 3) := by decide +kernel
theorem dX11_favour_9 : decode cX11_favour 9 = .ok (.istore 5, 2) := by decide +kernel
theorem dX11_favour_11 : decode cX11_favour 11 = .ok (.iload 5, 2) := by decide +kernel
theorem dX11_favour_13 : decode cX11_favour 13 = .ok (.ifCond .ge 6, 3) := by decide +kernel
theorem dX11_favour_16 : decode cX11_favour 16 = .ok (.iload 5, 2) := by decide +kernel
theorem dX11_favour_18 : decode cX11_favour 18 = .ok (.ireturn, 1) := by decide +kernel
theorem dX11_favour_19 : decode cX11_favour 19 = .ok (.iload 5, 2) := by decide +kernel
theorem dX11_favour_21 : decode cX11_favour 21 = .ok (.ifCond .ne 6, 3) := by decide +kernel
theorem dX11_favour_24 : decode cX11_favour 24 = .ok (.bipush (-103), 2) := by decide +kernel
theorem dX11_favour_26 : decode cX11_favour 26 = .ok (.ireturn, 1) := by decide +kernel
theorem dX11_favour_27 : decode cX11_favour 27 = .ok (.aload_n 0, 1) := by decide +kernel
theorem dX11_favour_28 : decode cX11_favour 28 = .ok (.getfield 58, 3) := by decide +kernel
theorem dX11_favour_31 : decode cX11_favour 31 = .ok (.invokevirtual 165, 3) := by decide +kernel
theorem dX11_favour_34 : decode cX11_favour 34 = .ok (.ifCond .eq 6, 3) := by decide +kernel
theorem dX11_favour_37 : decode cX11_favour 37 = .ok (.bipush (-104), 2) := by decide +kernel
theorem dX11_favour_39 : decode cX11_favour 39 = .ok (.ireturn, 1) := by decide +kernel
theorem dX11_favour_40 : decode cX11_favour 40 = .ok (.aload_n 0, 1) := by decide +kernel
theorem dX11_favour_41 : decode cX11_favour 41 = .ok (.getfield 58, 3) := by decide +kernel
theorem dX11_favour_44 : decode cX11_favour 44 = .ok (.iload_n 1, 1) := by decide +kernel
theorem dX11_favour_45 : decode cX11_favour 45 = .ok (.iload_n 2, 1) := by decide +kernel
theorem dX11_favour_46 : decode cX11_favour 46 = .ok (.iload_n 3, 1) := by decide +kernel
theorem dX11_favour_47 : decode cX11_favour 47 = .ok (.iload 4, 2) := by decide +kernel
theorem dX11_favour_49 : decode cX11_favour 49 = .ok (.invokevirtual 168, 3) := by decide +kernel
theorem dX11_favour_52 : decode cX11_favour 52 = .ok (.ireturn, 1) := by decide +kernel
theorem dX11_fits_0 : decode cX11_fits 0 = .ok (.aload_n 0, 1) := by decide +kernel
theorem dX11_fits_1 : decode cX11_fits 1 = .ok (.getfield 51, 3) := by decide +kernel
theorem dX11_fits_4 : decode cX11_fits 4 = .ok (.aload_n 0, 1) := by decide +kernel
theorem dX11_fits_5 : decode cX11_fits 5 = .ok (.getfield 68, 3) := by decide +kernel
theorem dX11_fits_8 : decode cX11_fits 8 = .ok (.invokevirtual 223, 3) := by decide +kernel
theorem dX11_fits_11 : decode cX11_fits 11 = .ok (.ireturn, 1) := by decide +kernel
theorem dX11_forget_0 : decode cX11_forget 0 = .ok (.aload_n 0, 1) := by decide +kernel
theorem dX11_forget_1 : decode cX11_forget 1 = .ok (.getfield 68, 3) := by decide +kernel
theorem dX11_forget_4 : decode cX11_forget 4 = .ok (.getfield 101, 3) := by decide +kernel
theorem dX11_forget_7 : decode cX11_forget 7 = .ok (.istore_n 1, 1) := by decide +kernel
theorem dX11_forget_8 : decode cX11_forget 8 = .ok (.aload_n 0, 1) := by decide +kernel
theorem dX11_forget_9 : decode cX11_forget 9 = .ok (.getfield 68, 3) := by decide +kernel
theorem dX11_forget_12 : decode cX11_forget 12 = .ok (.iconst 0, 1) := by decide +kernel
theorem dX11_forget_13 : decode cX11_forget 13 = .ok (.putfield 101, 3) := by decide +kernel
theorem dX11_forget_16 : decode cX11_forget 16 = .ok (.iload_n 1, 1) := by decide +kernel
theorem dX11_forget_17 : decode cX11_forget 17 = .ok (.ireturn, 1) := by decide +kernel
theorem dX11_image_0 : decode cX11_image 0 = .ok (.aload_n 0, 1) := by decide +kernel
theorem dX11_image_1 : decode cX11_image 1 = .ok (.getfield 102, 3) := by decide +kernel
theorem dX11_image_4 : decode cX11_image 4 = .ok (.ifCond .ne 6, 3) := by decide +kernel
theorem dX11_image_7 : decode cX11_image 7 = .ok (.bipush (-103), 2) := by decide +kernel
theorem dX11_image_9 : decode cX11_image 9 = .ok (.ireturn, 1) := by decide +kernel
theorem dX11_image_10 : decode cX11_image 10 = .ok (.aload_n 0, 1) := by decide +kernel
theorem dX11_image_11 : decode cX11_image 11 = .ok (.getfield 72, 3) := by decide +kernel
theorem dX11_image_14 : decode cX11_image 14 = .ok (.aload_n 0, 1) := by decide +kernel
theorem dX11_image_15 : decode cX11_image 15 = .ok (.getfield 58, 3) := by decide +kernel
theorem dX11_image_18 : decode cX11_image 18 = .ok (.invokevirtual 231, 3) := by decide +kernel
theorem dX11_image_21 : decode cX11_image 21 = .ok (.aload_n 0, 1) := by decide +kernel
theorem dX11_image_22 : decode cX11_image 22 = .ok (.getfield 75, 3) := by decide +kernel
theorem dX11_image_25 : decode cX11_image 25 = .ok (.aload_n 0, 1) := by decide +kernel
theorem dX11_image_26 : decode cX11_image 26 = .ok (.getfield 68, 3) := by decide +kernel
theorem dX11_image_29 : decode cX11_image 29 = .ok (.invokevirtual 264, 3) := by decide +kernel
theorem dX11_image_32 : decode cX11_image 32 = .ok (.aload_n 0, 1) := by decide +kernel
theorem dX11_image_33 : decode cX11_image 33 = .ok (.aload_n 0, 1) := by decide +kernel
theorem dX11_image_34 : decode cX11_image 34 = .ok (.getfield 102, 3) := by decide +kernel
theorem dX11_image_37 : decode cX11_image 37 = .ok (.putfield 267, 3) := by decide +kernel
theorem dX11_image_40 : decode cX11_image 40 = .ok (.aload_n 0, 1) := by decide +kernel
theorem dX11_image_41 : decode cX11_image 41 = .ok (.aload_n 0, 1) := by decide +kernel
theorem dX11_image_42 : decode cX11_image 42 = .ok (.getfield 26, 3) := by decide +kernel
theorem dX11_image_45 : decode cX11_image 45 = .ok (.getfield 122, 3) := by decide +kernel
theorem dX11_image_48 : decode cX11_image 48 = .ok (.putfield 270, 3) := by decide +kernel
theorem dX11_image_51 : decode cX11_image 51 = .ok (.aload_n 0, 1) := by decide +kernel
theorem dX11_image_52 : decode cX11_image 52 = .ok (.getfield 58, 3) := by decide +kernel
theorem dX11_image_55 : decode cX11_image 55 = .ok (.getfield 197, 3) := by decide +kernel
theorem dX11_image_58 : decode cX11_image 58 = .ok (.ireturn, 1) := by decide +kernel
theorem dX11_init_0 : decode cX11_init 0 = .ok (.aload_n 0, 1) := by decide +kernel
theorem dX11_init_1 : decode cX11_init 1 = .ok (.invokespecial 1, 3) := by decide +kernel
theorem dX11_init_4 : decode cX11_init 4 = .ok (.aload_n 0, 1) := by decide +kernel
theorem dX11_init_5 : decode cX11_init 5 = .ok (.new 7, 3) := by decide +kernel
theorem dX11_init_8 : decode cX11_init 8 = .ok (.dup, 1) := by decide +kernel
theorem dX11_init_9 : decode cX11_init 9 = .ok (.invokespecial 9, 3) := by decide +kernel
theorem dX11_init_12 : decode cX11_init 12 = .ok (.putfield 10, 3) := by decide +kernel
theorem dX11_init_15 : decode cX11_init 15 = .ok (.aload_n 0, 1) := by decide +kernel
theorem dX11_init_16 : decode cX11_init 16 = .ok (.new 16, 3) := by decide +kernel
theorem dX11_init_19 : decode cX11_init 19 = .ok (.dup, 1) := by decide +kernel
theorem dX11_init_20 : decode cX11_init 20 = .ok (.invokespecial 18, 3) := by decide +kernel
theorem dX11_init_23 : decode cX11_init 23 = .ok (.putfield 19, 3) := by decide +kernel
theorem dX11_init_26 : decode cX11_init 26 = .ok (.aload_n 0, 1) := by decide +kernel
theorem dX11_init_27 : decode cX11_init 27 = .ok (.new 23, 3) := by decide +kernel
theorem dX11_init_30 : decode cX11_init 30 = .ok (.dup, 1) := by decide +kernel
theorem dX11_init_31 : decode cX11_init 31 = .ok (.invokespecial 25, 3) := by decide +kernel
theorem dX11_init_34 : decode cX11_init 34 = .ok (.putfield 26, 3) := by decide +kernel
theorem dX11_init_37 : decode cX11_init 37 = .ok (.aload_n 0, 1) := by decide +kernel
theorem dX11_init_38 : decode cX11_init 38 = .ok (.new 30, 3) := by decide +kernel
theorem dX11_init_41 : decode cX11_init 41 = .ok (.dup, 1) := by decide +kernel
theorem dX11_init_42 : decode cX11_init 42 = .ok (.aload_n 0, 1) := by decide +kernel
theorem dX11_init_43 : decode cX11_init 43 = .ok (.getfield 26, 3) := by decide +kernel
theorem dX11_init_46 : decode cX11_init 46 = .ok (.invokespecial 32, 3) := by decide +kernel
theorem dX11_init_49 : decode cX11_init 49 = .ok (.putfield 35, 3) := by decide +kernel
theorem dX11_init_52 : decode cX11_init 52 = .ok (.aload_n 0, 1) := by decide +kernel
theorem dX11_init_53 : decode cX11_init 53 = .ok (.new 39, 3) := by decide +kernel
theorem dX11_init_56 : decode cX11_init 56 = .ok (.dup, 1) := by decide +kernel
theorem dX11_init_57 : decode cX11_init 57 = .ok (.aload_n 0, 1) := by decide +kernel
theorem dX11_init_58 : decode cX11_init 58 = .ok (.getfield 26, 3) := by decide +kernel
theorem dX11_init_61 : decode cX11_init 61 = .ok (.aload_n 0, 1) := by decide +kernel
theorem dX11_init_62 : decode cX11_init 62 = .ok (.getfield 35, 3) := by decide +kernel
theorem dX11_init_65 : decode cX11_init 65 = .ok (.invokespecial 41, 3) := by decide +kernel
theorem dX11_init_68 : decode cX11_init 68 = .ok (.putfield 44, 3) := by decide +kernel
theorem dX11_init_71 : decode cX11_init 71 = .ok (.aload_n 0, 1) := by decide +kernel
theorem dX11_init_72 : decode cX11_init 72 = .ok (.new 48, 3) := by decide +kernel
theorem dX11_init_75 : decode cX11_init 75 = .ok (.dup, 1) := by decide +kernel
theorem dX11_init_76 : decode cX11_init 76 = .ok (.aload_n 0, 1) := by decide +kernel
theorem dX11_init_77 : decode cX11_init 77 = .ok (.getfield 26, 3) := by decide +kernel
theorem dX11_init_80 : decode cX11_init 80 = .ok (.aload_n 0, 1) := by decide +kernel
theorem dX11_init_81 : decode cX11_init 81 = .ok (.getfield 35, 3) := by decide +kernel
theorem dX11_init_84 : decode cX11_init 84 = .ok (.invokespecial 50, 3) := by decide +kernel
theorem dX11_init_87 : decode cX11_init 87 = .ok (.putfield 51, 3) := by decide +kernel
theorem dX11_init_90 : decode cX11_init 90 = .ok (.aload_n 0, 1) := by decide +kernel
theorem dX11_init_91 : decode cX11_init 91 = .ok (.new 55, 3) := by decide +kernel
theorem dX11_init_94 : decode cX11_init 94 = .ok (.dup, 1) := by decide +kernel
theorem dX11_init_95 : decode cX11_init 95 = .ok (.invokespecial 57, 3) := by decide +kernel
theorem dX11_init_98 : decode cX11_init 98 = .ok (.putfield 58, 3) := by decide +kernel
theorem dX11_init_101 : decode cX11_init 101 = .ok (.aload_n 0, 1) := by decide +kernel
theorem dX11_init_102 : decode cX11_init 102 = .ok (.new 55, 3) := by decide +kernel
theorem dX11_init_105 : decode cX11_init 105 = .ok (.dup, 1) := by decide +kernel
theorem dX11_init_106 : decode cX11_init 106 = .ok (.invokespecial 57, 3) := by decide +kernel
theorem dX11_init_109 : decode cX11_init 109 = .ok (.putfield 62, 3) := by decide +kernel
theorem dX11_init_112 : decode cX11_init 112 = .ok (.aload_n 0, 1) := by decide +kernel
theorem dX11_init_113 : decode cX11_init 113 = .ok (.new 65, 3) := by decide +kernel
theorem dX11_init_116 : decode cX11_init 116 = .ok (.dup, 1) := by decide +kernel
theorem dX11_init_117 : decode cX11_init 117 = .ok (.invokespecial 67, 3) := by decide +kernel
theorem dX11_init_120 : decode cX11_init 120 = .ok (.putfield 68, 3) := by decide +kernel
theorem dX11_init_123 : decode cX11_init 123 = .ok (.aload_n 0, 1) := by decide +kernel
theorem dX11_init_124 : decode cX11_init 124 = .ok (.new 55, 3) := by decide +kernel
theorem dX11_init_127 : decode cX11_init 127 = .ok (.dup, 1) := by decide +kernel
theorem dX11_init_128 : decode cX11_init 128 = .ok (.invokespecial 57, 3) := by decide +kernel
theorem dX11_init_131 : decode cX11_init 131 = .ok (.putfield 72, 3) := by decide +kernel
theorem dX11_init_134 : decode cX11_init 134 = .ok (.aload_n 0, 1) := by decide +kernel
theorem dX11_init_135 : decode cX11_init 135 = .ok (.new 65, 3) := by decide +kernel
theorem dX11_init_138 : decode cX11_init 138 = .ok (.dup, 1) := by decide +kernel
theorem dX11_init_139 : decode cX11_init 139 = .ok (.invokespecial 67, 3) := by decide +kernel
theorem dX11_init_142 : decode cX11_init 142 = .ok (.putfield 75, 3) := by decide +kernel
theorem dX11_init_145 : decode cX11_init 145 = .ok (.return_, 1) := by decide +kernel
theorem dX11_law_0 : decode cX11_law 0 = .ok (.aload_n 0, 1) := by decide +kernel
theorem dX11_law_1 : decode cX11_law 1 = .ok (.getfield 19, 3) := by decide +kernel
theorem dX11_law_4 : decode cX11_law 4 = .ok (.aload_n 0, 1) := by decide +kernel
theorem dX11_law_5 : decode cX11_law 5 = .ok (.getfield 10, 3) := by decide +kernel
theorem dX11_law_8 : decode cX11_law 8 = .ok (.invokevirtual 86, 3) := by decide +kernel
theorem dX11_law_11 : decode cX11_law 11 = .ok (.istore_n 1, 1) := by decide +kernel
theorem dX11_law_12 : decode cX11_law 12 = .ok (.iload_n 1, 1) := by decide +kernel
theorem dX11_law_13 : decode cX11_law 13 = .ok (.aload_n 0, 1) := by decide +kernel
theorem dX11_law_14 : decode cX11_law 14 = .ok (.getfield 10, 3) := by decide +kernel
theorem dX11_law_17 : decode cX11_law 17 = .ok (.getfield 78, 3) := by decide +kernel
theorem dX11_law_20 : decode cX11_law 20 = .ok (.if_icmp .ne 13, 3) := by decide +kernel
theorem dX11_law_23 : decode cX11_law 23 = .ok (.aload_n 0, 1) := by decide +kernel
theorem dX11_law_24 : decode cX11_law 24 = .ok (.getfield 19, 3) := by decide +kernel
theorem dX11_law_27 : decode cX11_law 27 = .ok (.invokevirtual 90, 3) := by decide +kernel
theorem dX11_law_30 : decode cX11_law 30 = .ok (.ifCond .ne 6, 3) := by decide +kernel
theorem dX11_law_33 : decode cX11_law 33 = .ok (.bipush (-103), 2) := by decide +kernel
theorem dX11_law_35 : decode cX11_law 35 = .ok (.ireturn, 1) := by decide +kernel
theorem dX11_law_36 : decode cX11_law 36 = .ok (.aload_n 0, 1) := by decide +kernel
theorem dX11_law_37 : decode cX11_law 37 = .ok (.getfield 26, 3) := by decide +kernel
theorem dX11_law_40 : decode cX11_law 40 = .ok (.aload_n 0, 1) := by decide +kernel
theorem dX11_law_41 : decode cX11_law 41 = .ok (.getfield 19, 3) := by decide +kernel
theorem dX11_law_44 : decode cX11_law 44 = .ok (.invokevirtual 94, 3) := by decide +kernel
theorem dX11_law_47 : decode cX11_law 47 = .ok (.aload_n 0, 1) := by decide +kernel
theorem dX11_law_48 : decode cX11_law 48 = .ok (.getfield 58, 3) := by decide +kernel
theorem dX11_law_51 : decode cX11_law 51 = .ok (.invokevirtual 98, 3) := by decide +kernel
theorem dX11_law_54 : decode cX11_law 54 = .ok (.aload_n 0, 1) := by decide +kernel
theorem dX11_law_55 : decode cX11_law 55 = .ok (.getfield 68, 3) := by decide +kernel
theorem dX11_law_58 : decode cX11_law 58 = .ok (.iconst 0, 1) := by decide +kernel
theorem dX11_law_59 : decode cX11_law 59 = .ok (.putfield 101, 3) := by decide +kernel
theorem dX11_law_62 : decode cX11_law 62 = .ok (.aload_n 0, 1) := by decide +kernel
theorem dX11_law_63 : decode cX11_law 63 = .ok (.getfield 10, 3) := by decide +kernel
theorem dX11_law_66 : decode cX11_law 66 = .ok (.iconst 0, 1) := by decide +kernel
theorem dX11_law_67 : decode cX11_law 67 = .ok (.putfield 78, 3) := by decide +kernel
theorem dX11_law_70 : decode cX11_law 70 = .ok (.aload_n 0, 1) := by decide +kernel
theorem dX11_law_71 : decode cX11_law 71 = .ok (.dup, 1) := by decide +kernel
theorem dX11_law_72 : decode cX11_law 72 = .ok (.getfield 102, 3) := by decide +kernel
theorem dX11_law_75 : decode cX11_law 75 = .ok (.iconst 1, 1) := by decide +kernel
theorem dX11_law_76 : decode cX11_law 76 = .ok (.iadd, 1) := by decide +kernel
theorem dX11_law_77 : decode cX11_law 77 = .ok (.putfield 102, 3) := by decide +kernel
theorem dX11_law_80 : decode cX11_law 80 = .ok (.aload_n 0, 1) := by decide +kernel
theorem dX11_law_81 : decode cX11_law 81 = .ok (.getfield 26, 3) := by decide +kernel
theorem dX11_law_84 : decode cX11_law 84 = .ok (.getfield 105, 3) := by decide +kernel
theorem dX11_law_87 : decode cX11_law 87 = .ok (.getfield 109, 3) := by decide +kernel
theorem dX11_law_90 : decode cX11_law 90 = .ok (.ireturn, 1) := by decide +kernel
theorem dX11_letter_0 : decode cX11_letter 0 = .ok (.iload_n 1, 1) := by decide +kernel
theorem dX11_letter_1 : decode cX11_letter 1 = .ok (.iconst 1, 1) := by decide +kernel
theorem dX11_letter_2 : decode cX11_letter 2 = .ok (.if_icmp .lt 9, 3) := by decide +kernel
theorem dX11_letter_5 : decode cX11_letter 5 = .ok (.iload_n 1, 1) := by decide +kernel
theorem dX11_letter_6 : decode cX11_letter 6 = .ok (.bipush 126, 2) := by decide +kernel
theorem dX11_letter_8 : decode cX11_letter 8 = .ok (.if_icmp .le 6, 3) := by decide +kernel
theorem dX11_letter_11 : decode cX11_letter 11 = .ok (.bipush (-102), 2) := by decide +kernel
theorem dX11_letter_13 : decode cX11_letter 13 = .ok (.ireturn, 1) := by decide +kernel
theorem dX11_letter_14 : decode cX11_letter 14 = .ok (.aload_n 0, 1) := by decide +kernel
theorem dX11_letter_15 : decode cX11_letter 15 = .ok (.getfield 10, 3) := by decide +kernel
theorem dX11_letter_18 : decode cX11_letter 18 = .ok (.getfield 78, 3) := by decide +kernel
theorem dX11_letter_21 : decode cX11_letter 21 = .ok (.bipush 54, 2) := by decide +kernel
theorem dX11_letter_23 : decode cX11_letter 23 = .ok (.if_icmp .lt 6, 3) := by decide +kernel
theorem dX11_letter_26 : decode cX11_letter 26 = .ok (.bipush (-104), 2) := by decide +kernel
theorem dX11_letter_28 : decode cX11_letter 28 = .ok (.ireturn, 1) := by decide +kernel
theorem dX11_letter_29 : decode cX11_letter 29 = .ok (.aload_n 0, 1) := by decide +kernel
theorem dX11_letter_30 : decode cX11_letter 30 = .ok (.getfield 10, 3) := by decide +kernel
theorem dX11_letter_33 : decode cX11_letter 33 = .ok (.iload_n 1, 1) := by decide +kernel
theorem dX11_letter_34 : decode cX11_letter 34 = .ok (.invokevirtual 82, 3) := by decide +kernel
theorem dX11_letter_37 : decode cX11_letter 37 = .ok (.aload_n 0, 1) := by decide +kernel
theorem dX11_letter_38 : decode cX11_letter 38 = .ok (.getfield 10, 3) := by decide +kernel
theorem dX11_letter_41 : decode cX11_letter 41 = .ok (.getfield 78, 3) := by decide +kernel
theorem dX11_letter_44 : decode cX11_letter 44 = .ok (.ireturn, 1) := by decide +kernel
theorem dX11_liveTrialWeek_0 : decode cX11_liveTrialWeek 0 = .ok (.iconst 0, 1) := by decide +kernel
theorem dX11_liveTrialWeek_1 : decode cX11_liveTrialWeek 1 = .ok (.istore_n 2, 1) := by decide +kernel
theorem dX11_liveTrialWeek_2 : decode cX11_liveTrialWeek 2 = .ok (.iload_n 2, 1) := by decide +kernel
theorem dX11_liveTrialWeek_3 : decode cX11_liveTrialWeek 3 = .ok (.aload_n 0, 1) := by decide +kernel
theorem dX11_liveTrialWeek_4 : decode cX11_liveTrialWeek 4 = .ok (.getfield 26, 3) := by decide +kernel
theorem dX11_liveTrialWeek_7 : decode cX11_liveTrialWeek 7 = .ok (.getfield 122, 3) := by decide +kernel
theorem dX11_liveTrialWeek_10 : decode cX11_liveTrialWeek 10 = .ok (.if_icmp .ge 30, 3) := by decide +kernel
theorem dX11_liveTrialWeek_13 : decode cX11_liveTrialWeek 13 = .ok (.aload_n 0, 1) := by decide +kernel
theorem dX11_liveTrialWeek_14 : decode cX11_liveTrialWeek 14 = .ok (.getfield 62, 3) := by decide +kernel
theorem dX11_liveTrialWeek_17 : decode cX11_liveTrialWeek 17 = .ok (.iload_n 2, 1) := by decide +kernel
theorem dX11_liveTrialWeek_18 : decode cX11_liveTrialWeek 18 = .ok (.invokevirtual 254, 3) := by decide +kernel
theorem dX11_liveTrialWeek_21 : decode cX11_liveTrialWeek 21 = .ok (.istore_n 3, 1) := by decide +kernel
theorem dX11_liveTrialWeek_22 : decode cX11_liveTrialWeek 22 = .ok (.iload_n 3, 1) := by decide +kernel
theorem dX11_liveTrialWeek_23 : decode cX11_liveTrialWeek 23 = .ok (.iconst (-1), 1) := by decide +kernel
theorem dX11_liveTrialWeek_24 : decode cX11_liveTrialWeek 24 = .ok (.if_icmp .eq 10, 3) := by decide +kernel
theorem dX11_liveTrialWeek_27 : decode cX11_liveTrialWeek 27 = .ok (.aload_n 0, 1) := by decide +kernel
theorem dX11_liveTrialWeek_28 : decode cX11_liveTrialWeek 28 = .ok (.iload_n 2, 1) := by decide +kernel
theorem dX11_liveTrialWeek_29 : decode cX11_liveTrialWeek 29 = .ok (.iload_n 3, 1) := by decide +kernel
theorem dX11_liveTrialWeek_30 : decode cX11_liveTrialWeek 30 = .ok (.aload_n 1, 1) := by decide +kernel
theorem dX11_liveTrialWeek_31 : decode cX11_liveTrialWeek 31 = .ok (.invokevirtual 257, 3) := by decide +kernel
theorem dX11_liveTrialWeek_34 : decode cX11_liveTrialWeek 34 = .ok (.iinc 2 1, 3) := by decide +kernel
theorem dX11_liveTrialWeek_37 : decode cX11_liveTrialWeek 37 = .ok (.goto (-35), 3) := by decide +kernel
theorem dX11_liveTrialWeek_40 : decode cX11_liveTrialWeek 40 = .ok (.aload_n 0, 1) := by decide +kernel
theorem dX11_liveTrialWeek_41 : decode cX11_liveTrialWeek 41 = .ok (.getfield 62, 3) := by decide +kernel
theorem dX11_liveTrialWeek_44 : decode cX11_liveTrialWeek 44 = .ok (.dup, 1) := by decide +kernel
theorem dX11_liveTrialWeek_45 : decode cX11_liveTrialWeek 45 = .ok (.getfield 197, 3) := by decide +kernel
theorem dX11_liveTrialWeek_48 : decode cX11_liveTrialWeek 48 = .ok (.iconst 1, 1) := by decide +kernel
theorem dX11_liveTrialWeek_49 : decode cX11_liveTrialWeek 49 = .ok (.iadd, 1) := by decide +kernel
theorem dX11_liveTrialWeek_50 : decode cX11_liveTrialWeek 50 = .ok (.putfield 197, 3) := by decide +kernel
theorem dX11_liveTrialWeek_53 : decode cX11_liveTrialWeek 53 = .ok (.return_, 1) := by decide +kernel
theorem dX11_may_0 : decode cX11_may 0 = .ok (.aload_n 0, 1) := by decide +kernel
theorem dX11_may_1 : decode cX11_may 1 = .ok (.getfield 26, 3) := by decide +kernel
theorem dX11_may_4 : decode cX11_may 4 = .ok (.iload_n 1, 1) := by decide +kernel
theorem dX11_may_5 : decode cX11_may 5 = .ok (.iload_n 2, 1) := by decide +kernel
theorem dX11_may_6 : decode cX11_may 6 = .ok (.invokevirtual 112, 3) := by decide +kernel
theorem dX11_may_9 : decode cX11_may 9 = .ok (.ifCond .eq 21, 3) := by decide +kernel
theorem dX11_may_12 : decode cX11_may 12 = .ok (.iload 4, 2) := by decide +kernel
theorem dX11_may_14 : decode cX11_may 14 = .ok (.iconst (-1), 1) := by decide +kernel
theorem dX11_may_15 : decode cX11_may 15 = .ok (.if_icmp .eq 18, 3) := by decide +kernel
theorem dX11_may_18 : decode cX11_may 18 = .ok (.aload_n 0, 1) := by decide +kernel
theorem dX11_may_19 : decode cX11_may 19 = .ok (.getfield 58, 3) := by decide +kernel
theorem dX11_may_22 : decode cX11_may 22 = .ok (.iload 4, 2) := by decide +kernel
theorem dX11_may_24 : decode cX11_may 24 = .ok (.invokevirtual 156, 3) := by decide +kernel
theorem dX11_may_27 : decode cX11_may 27 = .ok (.ifCond .ne 6, 3) := by decide +kernel
theorem dX11_may_30 : decode cX11_may 30 = .ok (.bipush (-101), 2) := by decide +kernel
theorem dX11_may_32 : decode cX11_may 32 = .ok (.ireturn, 1) := by decide +kernel
theorem dX11_may_33 : decode cX11_may 33 = .ok (.iload_n 3, 1) := by decide +kernel
theorem dX11_may_34 : decode cX11_may 34 = .ok (.iconst 1, 1) := by decide +kernel
theorem dX11_may_35 : decode cX11_may 35 = .ok (.if_icmp .lt 9, 3) := by decide +kernel
theorem dX11_may_38 : decode cX11_may 38 = .ok (.iload_n 3, 1) := by decide +kernel
theorem dX11_may_39 : decode cX11_may 39 = .ok (.bipush 99, 2) := by decide +kernel
theorem dX11_may_41 : decode cX11_may 41 = .ok (.if_icmp .le 6, 3) := by decide +kernel
theorem dX11_may_44 : decode cX11_may 44 = .ok (.bipush (-102), 2) := by decide +kernel
theorem dX11_may_46 : decode cX11_may 46 = .ok (.ireturn, 1) := by decide +kernel
theorem dX11_may_47 : decode cX11_may 47 = .ok (.aload_n 0, 1) := by decide +kernel
theorem dX11_may_48 : decode cX11_may 48 = .ok (.getfield 58, 3) := by decide +kernel
theorem dX11_may_51 : decode cX11_may 51 = .ok (.aload_n 0, 1) := by decide +kernel
theorem dX11_may_52 : decode cX11_may 52 = .ok (.getfield 26, 3) := by decide +kernel
theorem dX11_may_55 : decode cX11_may 55 = .ok (.iload_n 1, 1) := by decide +kernel
theorem dX11_may_56 : decode cX11_may 56 = .ok (.iload_n 2, 1) := by decide +kernel
theorem dX11_may_57 : decode cX11_may 57 = .ok (.iload_n 3, 1) := by decide +kernel
theorem dX11_may_58 : decode cX11_may 58 = .ok (.iload 4, 2) := by decide +kernel
theorem dX11_may_60 : decode cX11_may 60 = .ok (.invokevirtual 157, 3) := by decide +kernel
theorem dX11_may_63 : decode cX11_may 63 = .ok (.ifCond .eq 7, 3) := by decide +kernel
theorem dX11_may_66 : decode cX11_may 66 = .ok (.iconst 1, 1) := by decide +kernel
theorem dX11_may_67 : decode cX11_may 67 = .ok (.goto 4, 3) := by decide +kernel
theorem dX11_may_70 : decode cX11_may 70 = .ok (.iconst 0, 1) := by decide +kernel
theorem dX11_may_71 : decode cX11_may 71 = .ok (.ireturn, 1) := by decide +kernel
theorem dX11_meeting_0 : decode cX11_meeting 0 = .ok (.aload_n 0, 1) := by decide +kernel
theorem dX11_meeting_1 : decode cX11_meeting 1 = .ok (.getfield 58, 3) := by decide +kernel
theorem dX11_meeting_4 : decode cX11_meeting 4 = .ok (.iload_n 1, 1) := by decide +kernel
theorem dX11_meeting_5 : decode cX11_meeting 5 = .ok (.invokevirtual 156, 3) := by decide +kernel
theorem dX11_meeting_8 : decode cX11_meeting 8 = .ok (.ifCond .eq 14, 3) := by decide +kernel
theorem dX11_meeting_11 : decode cX11_meeting 11 = .ok (.aload_n 0, 1) := by decide +kernel
theorem dX11_meeting_12 : decode cX11_meeting 12 = .ok (.getfield 26, 3) := by decide +kernel
theorem dX11_meeting_15 : decode cX11_meeting 15 = .ok (.iload_n 2, 1) := by decide +kernel
theorem dX11_meeting_16 : decode cX11_meeting 16 = .ok (.invokevirtual 129, 3) := by decide +kernel
theorem dX11_meeting_19 : decode cX11_meeting 19 = .ok (.ifCond .ne 6, 3) := by decide +kernel
theorem dX11_meeting_22 : decode cX11_meeting 22 = .ok (.bipush (-101), 2) := by decide +kernel
theorem dX11_meeting_24 : decode cX11_meeting 24 = .ok (.ireturn, 1) := by decide +kernel
theorem dX11_meeting_25 : decode cX11_meeting 25 = .ok (.aload_n 0, 1) := by decide +kernel
theorem dX11_meeting_26 : decode cX11_meeting 26 = .ok (.getfield 58, 3) := by decide +kernel
theorem dX11_meeting_29 : decode cX11_meeting 29 = .ok (.iload_n 1, 1) := by decide +kernel
theorem dX11_meeting_30 : decode cX11_meeting 30 = .ok (.invokevirtual 200, 3) := by decide +kernel
theorem dX11_meeting_33 : decode cX11_meeting 33 = .ok (.ifCond .ne 6, 3) := by decide +kernel
theorem dX11_meeting_36 : decode cX11_meeting 36 = .ok (.bipush (-103), 2) := by decide +kernel
theorem dX11_meeting_38 : decode cX11_meeting 38 = .ok (.ireturn, 1) := by decide +kernel
theorem dX11_meeting_39 : decode cX11_meeting 39 = .ok (.aload_n 0, 1) := by decide +kernel
theorem dX11_meeting_40 : decode cX11_meeting 40 = .ok (.getfield 44, 3) := by decide +kernel
theorem dX11_meeting_43 : decode cX11_meeting 43 = .ok (.aload_n 0, 1) := by decide +kernel
theorem dX11_meeting_44 : decode cX11_meeting 44 = .ok (.getfield 58, 3) := by decide +kernel
theorem dX11_meeting_47 : decode cX11_meeting 47 = .ok (.getfield 170, 3) := by decide +kernel
theorem dX11_meeting_50 : decode cX11_meeting 50 = .ok (.iload_n 1, 1) := by decide +kernel
theorem dX11_meeting_51 : decode cX11_meeting 51 = .ok (.iaload, 1) := by decide +kernel
theorem dX11_meeting_52 : decode cX11_meeting 52 = .ok (.aload_n 0, 1) := by decide +kernel
theorem dX11_meeting_53 : decode cX11_meeting 53 = .ok (.getfield 58, 3) := by decide +kernel
theorem dX11_meeting_56 : decode cX11_meeting 56 = .ok (.getfield 173, 3) := by decide +kernel
theorem dX11_meeting_59 : decode cX11_meeting 59 = .ok (.iload_n 1, 1) := by decide +kernel
theorem dX11_meeting_60 : decode cX11_meeting 60 = .ok (.iaload, 1) := by decide +kernel
theorem dX11_meeting_61 : decode cX11_meeting 61 = .ok (.iload_n 2, 1) := by decide +kernel
theorem dX11_meeting_62 : decode cX11_meeting 62 = .ok (.invokevirtual 216, 3) := by decide +kernel
theorem dX11_meeting_65 : decode cX11_meeting 65 = .ok (.ireturn, 1) := by decide +kernel
theorem dX11_person_0 : decode cX11_person 0 = .ok (.iload_n 1, 1) := by decide +kernel
theorem dX11_person_1 : decode cX11_person 1 = .ok (.ifCond .lt 8, 3) := by decide +kernel
theorem dX11_person_4 : decode cX11_person 4 = .ok (.iload_n 1, 1) := by decide +kernel
theorem dX11_person_5 : decode cX11_person 5 = .ok (.iconst 4, 1) := by decide +kernel
theorem dX11_person_6 : decode cX11_person 6 = .ok (.if_icmp .le 6, 3) := by decide +kernel
theorem dX11_person_9 : decode cX11_person 9 = .ok (.bipush (-102), 2) := by decide +kernel
theorem dX11_person_11 : decode cX11_person 11 = .ok (.ireturn, 1) := by decide +kernel
theorem dX11_person_12 : decode cX11_person 12 = .ok (.aload_n 0, 1) := by decide +kernel
theorem dX11_person_13 : decode cX11_person 13 = .ok (.getfield 102, 3) := by decide +kernel
theorem dX11_person_16 : decode cX11_person 16 = .ok (.ifCond .ne 6, 3) := by decide +kernel
theorem dX11_person_19 : decode cX11_person 19 = .ok (.bipush (-103), 2) := by decide +kernel
theorem dX11_person_21 : decode cX11_person 21 = .ok (.ireturn, 1) := by decide +kernel
theorem dX11_person_22 : decode cX11_person 22 = .ok (.aload_n 0, 1) := by decide +kernel
theorem dX11_person_23 : decode cX11_person 23 = .ok (.getfield 26, 3) := by decide +kernel
theorem dX11_person_26 : decode cX11_person 26 = .ok (.getfield 122, 3) := by decide +kernel
theorem dX11_person_29 : decode cX11_person 29 = .ok (.bipush 6, 2) := by decide +kernel
theorem dX11_person_31 : decode cX11_person 31 = .ok (.if_icmp .lt 6, 3) := by decide +kernel
theorem dX11_person_34 : decode cX11_person 34 = .ok (.bipush (-104), 2) := by decide +kernel
theorem dX11_person_36 : decode cX11_person 36 = .ok (.ireturn, 1) := by decide +kernel
theorem dX11_person_37 : decode cX11_person 37 = .ok (.aload_n 0, 1) := by decide +kernel
theorem dX11_person_38 : decode cX11_person 38 = .ok (.getfield 26, 3) := by decide +kernel
theorem dX11_person_41 : decode cX11_person 41 = .ok (.iload_n 1, 1) := by decide +kernel
theorem dX11_person_42 : decode cX11_person 42 = .ok (.invokevirtual 123, 3) := by decide +kernel
theorem dX11_person_45 : decode cX11_person 45 = .ok (.istore_n 2, 1) := by decide +kernel
theorem dX11_person_46 : decode cX11_person 46 = .ok (.aload_n 0, 1) := by decide +kernel
theorem dX11_person_47 : decode cX11_person 47 = .ok (.getfield 35, 3) := by decide +kernel
theorem dX11_person_50 : decode cX11_person 50 = .ok (.invokevirtual 126, 3) := by decide +kernel
theorem dX11_person_53 : decode cX11_person 53 = .ok (.iload_n 2, 1) := by decide +kernel
theorem dX11_person_54 : decode cX11_person 54 = .ok (.ireturn, 1) := by decide +kernel
theorem dX11_reach_0 : decode cX11_reach 0 = .ok (.aload_n 0, 1) := by decide +kernel
theorem dX11_reach_1 : decode cX11_reach 1 = .ok (.getfield 58, 3) := by decide +kernel
theorem dX11_reach_4 : decode cX11_reach 4 = .ok (.iload_n 1, 1) := by decide +kernel
theorem dX11_reach_5 : decode cX11_reach 5 = .ok (.invokevirtual 156, 3) := by decide +kernel
theorem dX11_reach_8 : decode cX11_reach 8 = .ok (.ifCond .ne 6, 3) := by decide +kernel
theorem dX11_reach_11 : decode cX11_reach 11 = .ok (.bipush (-101), 2) := by decide +kernel
theorem dX11_reach_13 : decode cX11_reach 13 = .ok (.ireturn, 1) := by decide +kernel
theorem dX11_reach_14 : decode cX11_reach 14 = .ok (.aload_n 0, 1) := by decide +kernel
theorem dX11_reach_15 : decode cX11_reach 15 = .ok (.getfield 58, 3) := by decide +kernel
theorem dX11_reach_18 : decode cX11_reach 18 = .ok (.iload_n 1, 1) := by decide +kernel
theorem dX11_reach_19 : decode cX11_reach 19 = .ok (.invokevirtual 200, 3) := by decide +kernel
theorem dX11_reach_22 : decode cX11_reach 22 = .ok (.ifCond .ne 6, 3) := by decide +kernel
theorem dX11_reach_25 : decode cX11_reach 25 = .ok (.bipush (-103), 2) := by decide +kernel
theorem dX11_reach_27 : decode cX11_reach 27 = .ok (.ireturn, 1) := by decide +kernel
theorem dX11_reach_28 : decode cX11_reach 28 = .ok (.aload_n 0, 1) := by decide +kernel
theorem dX11_reach_29 : decode cX11_reach 29 = .ok (.getfield 44, 3) := by decide +kernel
theorem dX11_reach_32 : decode cX11_reach 32 = .ok (.aload_n 0, 1) := by decide +kernel
theorem dX11_reach_33 : decode cX11_reach 33 = .ok (.getfield 58, 3) := by decide +kernel
theorem dX11_reach_36 : decode cX11_reach 36 = .ok (.getfield 170, 3) := by decide +kernel
theorem dX11_reach_39 : decode cX11_reach 39 = .ok (.iload_n 1, 1) := by decide +kernel
theorem dX11_reach_40 : decode cX11_reach 40 = .ok (.iaload, 1) := by decide +kernel
theorem dX11_reach_41 : decode cX11_reach 41 = .ok (.aload_n 0, 1) := by decide +kernel
theorem dX11_reach_42 : decode cX11_reach 42 = .ok (.getfield 58, 3) := by decide +kernel
theorem dX11_reach_45 : decode cX11_reach 45 = .ok (.getfield 173, 3) := by decide +kernel
theorem dX11_reach_48 : decode cX11_reach 48 = .ok (.iload_n 1, 1) := by decide +kernel
theorem dX11_reach_49 : decode cX11_reach 49 = .ok (.iaload, 1) := by decide +kernel
theorem dX11_reach_50 : decode cX11_reach 50 = .ok (.invokevirtual 210, 3) := by decide +kernel
theorem dX11_reach_53 : decode cX11_reach 53 = .ok (.ireturn, 1) := by decide +kernel
theorem dX11_repayByDraw_0 : decode cX11_repayByDraw 0 = .ok (.aload_n 3, 1) := by decide +kernel
theorem dX11_repayByDraw_1 : decode cX11_repayByDraw 1 = .ok (.iconst 2, 1) := by decide +kernel
theorem dX11_repayByDraw_2 : decode cX11_repayByDraw 2 = .ok (.invokevirtual 261, 3) := by decide +kernel
theorem dX11_repayByDraw_5 : decode cX11_repayByDraw 5 = .ok (.iconst 1, 1) := by decide +kernel
theorem dX11_repayByDraw_6 : decode cX11_repayByDraw 6 = .ok (.if_icmp .ne 4, 3) := by decide +kernel
theorem dX11_repayByDraw_9 : decode cX11_repayByDraw 9 = .ok (.return_, 1) := by decide +kernel
theorem dX11_repayByDraw_10 : decode cX11_repayByDraw 10 = .ok (.aload_n 3, 1) := by decide +kernel
theorem dX11_repayByDraw_11 : decode cX11_repayByDraw 11 = .ok (.aload_n 0, 1) := by decide +kernel
theorem dX11_repayByDraw_12 : decode cX11_repayByDraw 12 = .ok (.getfield 26, 3) := by decide +kernel
theorem dX11_repayByDraw_15 : decode cX11_repayByDraw 15 = .ok (.getfield 122, 3) := by decide +kernel
theorem dX11_repayByDraw_18 : decode cX11_repayByDraw 18 = .ok (.invokevirtual 261, 3) := by decide +kernel
theorem dX11_repayByDraw_21 : decode cX11_repayByDraw 21 = .ok (.istore 4, 2) := by decide +kernel
theorem dX11_repayByDraw_23 : decode cX11_repayByDraw 23 = .ok (.aload_n 0, 1) := by decide +kernel
theorem dX11_repayByDraw_24 : decode cX11_repayByDraw 24 = .ok (.getfield 62, 3) := by decide +kernel
theorem dX11_repayByDraw_27 : decode cX11_repayByDraw 27 = .ok (.invokevirtual 165, 3) := by decide +kernel
theorem dX11_repayByDraw_30 : decode cX11_repayByDraw 30 = .ok (.ifCond .eq 4, 3) := by decide +kernel
theorem dX11_repayByDraw_33 : decode cX11_repayByDraw 33 = .ok (.return_, 1) := by decide +kernel
theorem dX11_repayByDraw_34 : decode cX11_repayByDraw 34 = .ok (.aload_n 0, 1) := by decide +kernel
theorem dX11_repayByDraw_35 : decode cX11_repayByDraw 35 = .ok (.getfield 62, 3) := by decide +kernel
theorem dX11_repayByDraw_38 : decode cX11_repayByDraw 38 = .ok (.getfield 176, 3) := by decide +kernel
theorem dX11_repayByDraw_41 : decode cX11_repayByDraw 41 = .ok (.iload_n 2, 1) := by decide +kernel
theorem dX11_repayByDraw_42 : decode cX11_repayByDraw 42 = .ok (.iaload, 1) := by decide +kernel
theorem dX11_repayByDraw_43 : decode cX11_repayByDraw 43 = .ok (.istore 5, 2) := by decide +kernel
theorem dX11_repayByDraw_45 : decode cX11_repayByDraw 45 = .ok (.aload_n 0, 1) := by decide +kernel
theorem dX11_repayByDraw_46 : decode cX11_repayByDraw 46 = .ok (.getfield 62, 3) := by decide +kernel
theorem dX11_repayByDraw_49 : decode cX11_repayByDraw 49 = .ok (.aload_n 0, 1) := by decide +kernel
theorem dX11_repayByDraw_50 : decode cX11_repayByDraw 50 = .ok (.getfield 26, 3) := by decide +kernel
theorem dX11_repayByDraw_53 : decode cX11_repayByDraw 53 = .ok (.iload_n 1, 1) := by decide +kernel
theorem dX11_repayByDraw_54 : decode cX11_repayByDraw 54 = .ok (.iload 4, 2) := by decide +kernel
theorem dX11_repayByDraw_56 : decode cX11_repayByDraw 56 = .ok (.iload 5, 2) := by decide +kernel
theorem dX11_repayByDraw_58 : decode cX11_repayByDraw 58 = .ok (.iload_n 2, 1) := by decide +kernel
theorem dX11_repayByDraw_59 : decode cX11_repayByDraw 59 = .ok (.invokevirtual 157, 3) := by decide +kernel
theorem dX11_repayByDraw_62 : decode cX11_repayByDraw 62 = .ok (.ifCond .eq 17, 3) := by decide +kernel
theorem dX11_repayByDraw_65 : decode cX11_repayByDraw 65 = .ok (.aload_n 0, 1) := by decide +kernel
theorem dX11_repayByDraw_66 : decode cX11_repayByDraw 66 = .ok (.getfield 62, 3) := by decide +kernel
theorem dX11_repayByDraw_69 : decode cX11_repayByDraw 69 = .ok (.iload_n 1, 1) := by decide +kernel
theorem dX11_repayByDraw_70 : decode cX11_repayByDraw 70 = .ok (.iload 4, 2) := by decide +kernel
theorem dX11_repayByDraw_72 : decode cX11_repayByDraw 72 = .ok (.iload 5, 2) := by decide +kernel
theorem dX11_repayByDraw_74 : decode cX11_repayByDraw 74 = .ok (.iload_n 2, 1) := by decide +kernel
theorem dX11_repayByDraw_75 : decode cX11_repayByDraw 75 = .ok (.invokevirtual 168, 3) := by decide +kernel
theorem dX11_repayByDraw_78 : decode cX11_repayByDraw 78 = .ok (.pop, 1) := by decide +kernel
theorem dX11_repayByDraw_79 : decode cX11_repayByDraw 79 = .ok (.return_, 1) := by decide +kernel
theorem dX11_restore_0 : decode cX11_restore 0 = .ok (.aload_n 0, 1) := by decide +kernel
theorem dX11_restore_1 : decode cX11_restore 1 = .ok (.getfield 267, 3) := by decide +kernel
theorem dX11_restore_4 : decode cX11_restore 4 = .ok (.ifCond .eq 28, 3) := by decide +kernel
theorem dX11_restore_7 : decode cX11_restore 7 = .ok (.aload_n 0, 1) := by decide +kernel
theorem dX11_restore_8 : decode cX11_restore 8 = .ok (.getfield 267, 3) := by decide +kernel
theorem dX11_restore_11 : decode cX11_restore 11 = .ok (.aload_n 0, 1) := by decide +kernel
theorem dX11_restore_12 : decode cX11_restore 12 = .ok (.getfield 102, 3) := by decide +kernel
theorem dX11_restore_15 : decode cX11_restore 15 = .ok (.if_icmp .ne 17, 3) := by decide +kernel
theorem dX11_restore_18 : decode cX11_restore 18 = .ok (.aload_n 0, 1) := by decide +kernel
theorem dX11_restore_19 : decode cX11_restore 19 = .ok (.getfield 270, 3) := by decide +kernel
theorem dX11_restore_22 : decode cX11_restore 22 = .ok (.aload_n 0, 1) := by decide +kernel
theorem dX11_restore_23 : decode cX11_restore 23 = .ok (.getfield 26, 3) := by decide +kernel
theorem dX11_restore_26 : decode cX11_restore 26 = .ok (.getfield 122, 3) := by decide +kernel
theorem dX11_restore_29 : decode cX11_restore 29 = .ok (.if_icmp .eq 6, 3) := by decide +kernel
theorem dX11_restore_32 : decode cX11_restore 32 = .ok (.bipush (-103), 2) := by decide +kernel
theorem dX11_restore_34 : decode cX11_restore 34 = .ok (.ireturn, 1) := by decide +kernel
theorem dX11_restore_35 : decode cX11_restore 35 = .ok (.aload_n 0, 1) := by decide +kernel
theorem dX11_restore_36 : decode cX11_restore 36 = .ok (.getfield 58, 3) := by decide +kernel
theorem dX11_restore_39 : decode cX11_restore 39 = .ok (.aload_n 0, 1) := by decide +kernel
theorem dX11_restore_40 : decode cX11_restore 40 = .ok (.getfield 72, 3) := by decide +kernel
theorem dX11_restore_43 : decode cX11_restore 43 = .ok (.invokevirtual 231, 3) := by decide +kernel
theorem dX11_restore_46 : decode cX11_restore 46 = .ok (.aload_n 0, 1) := by decide +kernel
theorem dX11_restore_47 : decode cX11_restore 47 = .ok (.getfield 68, 3) := by decide +kernel
theorem dX11_restore_50 : decode cX11_restore 50 = .ok (.aload_n 0, 1) := by decide +kernel
theorem dX11_restore_51 : decode cX11_restore 51 = .ok (.getfield 75, 3) := by decide +kernel
theorem dX11_restore_54 : decode cX11_restore 54 = .ok (.invokevirtual 264, 3) := by decide +kernel
theorem dX11_restore_57 : decode cX11_restore 57 = .ok (.aload_n 0, 1) := by decide +kernel
theorem dX11_restore_58 : decode cX11_restore 58 = .ok (.getfield 58, 3) := by decide +kernel
theorem dX11_restore_61 : decode cX11_restore 61 = .ok (.getfield 197, 3) := by decide +kernel
theorem dX11_restore_64 : decode cX11_restore 64 = .ok (.ireturn, 1) := by decide +kernel
theorem dX11_rings_0 : decode cX11_rings 0 = .ok (.aload_n 0, 1) := by decide +kernel
theorem dX11_rings_1 : decode cX11_rings 1 = .ok (.getfield 26, 3) := by decide +kernel
theorem dX11_rings_4 : decode cX11_rings 4 = .ok (.iload_n 1, 1) := by decide +kernel
theorem dX11_rings_5 : decode cX11_rings 5 = .ok (.invokevirtual 129, 3) := by decide +kernel
theorem dX11_rings_8 : decode cX11_rings 8 = .ok (.ifCond .ne 6, 3) := by decide +kernel
theorem dX11_rings_11 : decode cX11_rings 11 = .ok (.bipush (-101), 2) := by decide +kernel
theorem dX11_rings_13 : decode cX11_rings 13 = .ok (.ireturn, 1) := by decide +kernel
theorem dX11_rings_14 : decode cX11_rings 14 = .ok (.iload_n 2, 1) := by decide +kernel
theorem dX11_rings_15 : decode cX11_rings 15 = .ok (.iconst 2, 1) := by decide +kernel
theorem dX11_rings_16 : decode cX11_rings 16 = .ok (.if_icmp .lt 9, 3) := by decide +kernel
theorem dX11_rings_19 : decode cX11_rings 19 = .ok (.iload_n 2, 1) := by decide +kernel
theorem dX11_rings_20 : decode cX11_rings 20 = .ok (.bipush 6, 2) := by decide +kernel
theorem dX11_rings_22 : decode cX11_rings 22 = .ok (.if_icmp .le 6, 3) := by decide +kernel
theorem dX11_rings_25 : decode cX11_rings 25 = .ok (.bipush (-102), 2) := by decide +kernel
theorem dX11_rings_27 : decode cX11_rings 27 = .ok (.ireturn, 1) := by decide +kernel
theorem dX11_rings_28 : decode cX11_rings 28 = .ok (.aload_n 0, 1) := by decide +kernel
theorem dX11_rings_29 : decode cX11_rings 29 = .ok (.getfield 51, 3) := by decide +kernel
theorem dX11_rings_32 : decode cX11_rings 32 = .ok (.iload_n 1, 1) := by decide +kernel
theorem dX11_rings_33 : decode cX11_rings 33 = .ok (.iload_n 2, 1) := by decide +kernel
theorem dX11_rings_34 : decode cX11_rings 34 = .ok (.invokevirtual 219, 3) := by decide +kernel
theorem dX11_rings_37 : decode cX11_rings 37 = .ok (.ireturn, 1) := by decide +kernel
theorem dX11_sure_0 : decode cX11_sure 0 = .ok (.iload_n 1, 1) := by decide +kernel
theorem dX11_sure_1 : decode cX11_sure 1 = .ok (.ifCond .lt 14, 3) := by decide +kernel
theorem dX11_sure_4 : decode cX11_sure 4 = .ok (.iload_n 1, 1) := by decide +kernel
theorem dX11_sure_5 : decode cX11_sure 5 = .ok (.aload_n 0, 1) := by decide +kernel
theorem dX11_sure_6 : decode cX11_sure 6 = .ok (.getfield 68, 3) := by decide +kernel
theorem dX11_sure_9 : decode cX11_sure 9 = .ok (.getfield 101, 3) := by decide +kernel
theorem dX11_sure_12 : decode cX11_sure 12 = .ok (.if_icmp .lt 6, 3) := by decide +kernel
theorem dX11_sure_15 : decode cX11_sure 15 = .ok (.bipush (-101), 2) := by decide +kernel
theorem dX11_sure_17 : decode cX11_sure 17 = .ok (.ireturn, 1) := by decide +kernel
theorem dX11_sure_18 : decode cX11_sure 18 = .ok (.aload_n 0, 1) := by decide +kernel
theorem dX11_sure_19 : decode cX11_sure 19 = .ok (.getfield 51, 3) := by decide +kernel
theorem dX11_sure_22 : decode cX11_sure 22 = .ok (.aload_n 0, 1) := by decide +kernel
theorem dX11_sure_23 : decode cX11_sure 23 = .ok (.getfield 68, 3) := by decide +kernel
theorem dX11_sure_26 : decode cX11_sure 26 = .ok (.iload_n 1, 1) := by decide +kernel
theorem dX11_sure_27 : decode cX11_sure 27 = .ok (.invokevirtual 227, 3) := by decide +kernel
theorem dX11_sure_30 : decode cX11_sure 30 = .ok (.ireturn, 1) := by decide +kernel
theorem dX11_thanks_0 : decode cX11_thanks 0 = .ok (.iload_n 1, 1) := by decide +kernel
theorem dX11_thanks_1 : decode cX11_thanks 1 = .ok (.iconst (-1), 1) := by decide +kernel
theorem dX11_thanks_2 : decode cX11_thanks 2 = .ok (.if_icmp .eq 17, 3) := by decide +kernel
theorem dX11_thanks_5 : decode cX11_thanks 5 = .ok (.aload_n 0, 1) := by decide +kernel
theorem dX11_thanks_6 : decode cX11_thanks 6 = .ok (.getfield 26, 3) := by decide +kernel
theorem dX11_thanks_9 : decode cX11_thanks 9 = .ok (.iload_n 1, 1) := by decide +kernel
theorem dX11_thanks_10 : decode cX11_thanks 10 = .ok (.invokevirtual 129, 3) := by decide +kernel
theorem dX11_thanks_13 : decode cX11_thanks 13 = .ok (.ifCond .ne 6, 3) := by decide +kernel
theorem dX11_thanks_16 : decode cX11_thanks 16 = .ok (.bipush (-101), 2) := by decide +kernel
theorem dX11_thanks_18 : decode cX11_thanks 18 = .ok (.ireturn, 1) := by decide +kernel
theorem dX11_thanks_19 : decode cX11_thanks 19 = .ok (.aload_n 0, 1) := by decide +kernel
theorem dX11_thanks_20 : decode cX11_thanks 20 = .ok (.getfield 68, 3) := by decide +kernel
theorem dX11_thanks_23 : decode cX11_thanks 23 = .ok (.getfield 101, 3) := by decide +kernel
theorem dX11_thanks_26 : decode cX11_thanks 26 = .ok (.bipush 7, 2) := by decide +kernel
theorem dX11_thanks_28 : decode cX11_thanks 28 = .ok (.if_icmp .lt 6, 3) := by decide +kernel
theorem dX11_thanks_31 : decode cX11_thanks 31 = .ok (.bipush (-104), 2) := by decide +kernel
theorem dX11_thanks_33 : decode cX11_thanks 33 = .ok (.ireturn, 1) := by decide +kernel
theorem dX11_thanks_34 : decode cX11_thanks 34 = .ok (.aload_n 0, 1) := by decide +kernel
theorem dX11_thanks_35 : decode cX11_thanks 35 = .ok (.getfield 68, 3) := by decide +kernel
theorem dX11_thanks_38 : decode cX11_thanks 38 = .ok (.iload_n 1, 1) := by decide +kernel
theorem dX11_thanks_39 : decode cX11_thanks 39 = .ok (.invokevirtual 222, 3) := by decide +kernel
theorem dX11_thanks_42 : decode cX11_thanks 42 = .ok (.aload_n 0, 1) := by decide +kernel
theorem dX11_thanks_43 : decode cX11_thanks 43 = .ok (.getfield 68, 3) := by decide +kernel
theorem dX11_thanks_46 : decode cX11_thanks 46 = .ok (.getfield 101, 3) := by decide +kernel
theorem dX11_thanks_49 : decode cX11_thanks 49 = .ok (.ireturn, 1) := by decide +kernel
theorem dX11_two_0 : decode cX11_two 0 = .ok (.iload_n 0, 1) := by decide +kernel
theorem dX11_two_1 : decode cX11_two 1 = .ok (.bipush 6, 2) := by decide +kernel
theorem dX11_two_3 : decode cX11_two 3 = .ok (.imul, 1) := by decide +kernel
theorem dX11_two_4 : decode cX11_two 4 = .ok (.iload_n 1, 1) := by decide +kernel
theorem dX11_two_5 : decode cX11_two 5 = .ok (.iadd, 1) := by decide +kernel
theorem dX11_two_6 : decode cX11_two 6 = .ok (.ireturn, 1) := by decide +kernel
theorem dX11_way_0 : decode cX11_way 0 = .ok (.aload_n 0, 1) := by decide +kernel
theorem dX11_way_1 : decode cX11_way 1 = .ok (.getfield 58, 3) := by decide +kernel
theorem dX11_way_4 : decode cX11_way 4 = .ok (.iload_n 1, 1) := by decide +kernel
theorem dX11_way_5 : decode cX11_way 5 = .ok (.invokevirtual 156, 3) := by decide +kernel
theorem dX11_way_8 : decode cX11_way 8 = .ok (.ifCond .eq 14, 3) := by decide +kernel
theorem dX11_way_11 : decode cX11_way 11 = .ok (.aload_n 0, 1) := by decide +kernel
theorem dX11_way_12 : decode cX11_way 12 = .ok (.getfield 26, 3) := by decide +kernel
theorem dX11_way_15 : decode cX11_way 15 = .ok (.iload_n 2, 1) := by decide +kernel
theorem dX11_way_16 : decode cX11_way 16 = .ok (.invokevirtual 129, 3) := by decide +kernel
theorem dX11_way_19 : decode cX11_way 19 = .ok (.ifCond .ne 6, 3) := by decide +kernel
theorem dX11_way_22 : decode cX11_way 22 = .ok (.bipush (-101), 2) := by decide +kernel
theorem dX11_way_24 : decode cX11_way 24 = .ok (.ireturn, 1) := by decide +kernel
theorem dX11_way_25 : decode cX11_way 25 = .ok (.iload_n 3, 1) := by decide +kernel
theorem dX11_way_26 : decode cX11_way 26 = .ok (.ifCond .lt 8, 3) := by decide +kernel
theorem dX11_way_29 : decode cX11_way 29 = .ok (.iload_n 3, 1) := by decide +kernel
theorem dX11_way_30 : decode cX11_way 30 = .ok (.iconst 1, 1) := by decide +kernel
theorem dX11_way_31 : decode cX11_way 31 = .ok (.if_icmp .le 6, 3) := by decide +kernel
theorem dX11_way_34 : decode cX11_way 34 = .ok (.bipush (-102), 2) := by decide +kernel
theorem dX11_way_36 : decode cX11_way 36 = .ok (.ireturn, 1) := by decide +kernel
theorem dX11_way_37 : decode cX11_way 37 = .ok (.aload_n 0, 1) := by decide +kernel
theorem dX11_way_38 : decode cX11_way 38 = .ok (.getfield 58, 3) := by decide +kernel
theorem dX11_way_41 : decode cX11_way 41 = .ok (.iload_n 1, 1) := by decide +kernel
theorem dX11_way_42 : decode cX11_way 42 = .ok (.invokevirtual 200, 3) := by decide +kernel
theorem dX11_way_45 : decode cX11_way 45 = .ok (.ifCond .ne 6, 3) := by decide +kernel
theorem dX11_way_48 : decode cX11_way 48 = .ok (.bipush (-103), 2) := by decide +kernel
theorem dX11_way_50 : decode cX11_way 50 = .ok (.ireturn, 1) := by decide +kernel
theorem dX11_way_51 : decode cX11_way 51 = .ok (.aload_n 0, 1) := by decide +kernel
theorem dX11_way_52 : decode cX11_way 52 = .ok (.getfield 44, 3) := by decide +kernel
theorem dX11_way_55 : decode cX11_way 55 = .ok (.aload_n 0, 1) := by decide +kernel
theorem dX11_way_56 : decode cX11_way 56 = .ok (.getfield 58, 3) := by decide +kernel
theorem dX11_way_59 : decode cX11_way 59 = .ok (.getfield 170, 3) := by decide +kernel
theorem dX11_way_62 : decode cX11_way 62 = .ok (.iload_n 1, 1) := by decide +kernel
theorem dX11_way_63 : decode cX11_way 63 = .ok (.iaload, 1) := by decide +kernel
theorem dX11_way_64 : decode cX11_way 64 = .ok (.aload_n 0, 1) := by decide +kernel
theorem dX11_way_65 : decode cX11_way 65 = .ok (.getfield 58, 3) := by decide +kernel
theorem dX11_way_68 : decode cX11_way 68 = .ok (.getfield 173, 3) := by decide +kernel
theorem dX11_way_71 : decode cX11_way 71 = .ok (.iload_n 1, 1) := by decide +kernel
theorem dX11_way_72 : decode cX11_way 72 = .ok (.iaload, 1) := by decide +kernel
theorem dX11_way_73 : decode cX11_way 73 = .ok (.iload_n 2, 1) := by decide +kernel
theorem dX11_way_74 : decode cX11_way 74 = .ok (.invokevirtual 203, 3) := by decide +kernel
theorem dX11_way_77 : decode cX11_way 77 = .ok (.istore 4, 2) := by decide +kernel
theorem dX11_way_79 : decode cX11_way 79 = .ok (.iload 4, 2) := by decide +kernel
theorem dX11_way_81 : decode cX11_way 81 = .ok (.iconst (-1), 1) := by decide +kernel
theorem dX11_way_82 : decode cX11_way 82 = .ok (.if_icmp .ne 5, 3) := by decide +kernel
theorem dX11_way_85 : decode cX11_way 85 = .ok (.iconst (-1), 1) := by decide +kernel
theorem dX11_way_86 : decode cX11_way 86 = .ok (.ireturn, 1) := by decide +kernel
theorem dX11_way_87 : decode cX11_way 87 = .ok (.iload_n 3, 1) := by decide +kernel
theorem dX11_way_88 : decode cX11_way 88 = .ok (.ifCond .ne 8, 3) := by decide +kernel
theorem dX11_way_91 : decode cX11_way 91 = .ok (.iload 4, 2) := by decide +kernel
theorem dX11_way_93 : decode cX11_way 93 = .ok (.goto 11, 3) := by decide +kernel
theorem dX11_way_96 : decode cX11_way 96 = .ok (.aload_n 0, 1) := by decide +kernel
theorem dX11_way_97 : decode cX11_way 97 = .ok (.getfield 44, 3) := by decide +kernel
theorem dX11_way_100 : decode cX11_way 100 = .ok (.iload_n 2, 1) := by decide +kernel
theorem dX11_way_101 : decode cX11_way 101 = .ok (.invokevirtual 207, 3) := by decide +kernel
theorem dX11_way_104 : decode cX11_way 104 = .ok (.ireturn, 1) := by decide +kernel
theorem dX11_week_0 : decode cX11_week 0 = .ok (.aload_n 0, 1) := by decide +kernel
theorem dX11_week_1 : decode cX11_week 1 = .ok (.getfield 102, 3) := by decide +kernel
theorem dX11_week_4 : decode cX11_week 4 = .ok (.ifCond .ne 6, 3) := by decide +kernel
theorem dX11_week_7 : decode cX11_week 7 = .ok (.bipush (-103), 2) := by decide +kernel
theorem dX11_week_9 : decode cX11_week 9 = .ok (.ireturn, 1) := by decide +kernel
theorem dX11_week_10 : decode cX11_week 10 = .ok (.aload_n 0, 1) := by decide +kernel
theorem dX11_week_11 : decode cX11_week 11 = .ok (.getfield 58, 3) := by decide +kernel
theorem dX11_week_14 : decode cX11_week 14 = .ok (.dup, 1) := by decide +kernel
theorem dX11_week_15 : decode cX11_week 15 = .ok (.getfield 197, 3) := by decide +kernel
theorem dX11_week_18 : decode cX11_week 18 = .ok (.iconst 1, 1) := by decide +kernel
theorem dX11_week_19 : decode cX11_week 19 = .ok (.iadd, 1) := by decide +kernel
theorem dX11_week_20 : decode cX11_week 20 = .ok (.putfield 197, 3) := by decide +kernel
theorem dX11_week_23 : decode cX11_week 23 = .ok (.aload_n 0, 1) := by decide +kernel
theorem dX11_week_24 : decode cX11_week 24 = .ok (.getfield 58, 3) := by decide +kernel
theorem dX11_week_27 : decode cX11_week 27 = .ok (.getfield 197, 3) := by decide +kernel
theorem dX11_week_30 : decode cX11_week 30 = .ok (.ireturn, 1) := by decide +kernel
theorem dX11_weeks_0 : decode cX11_weeks 0 = .ok (.iload_n 1, 1) := by decide +kernel
theorem dX11_weeks_1 : decode cX11_weeks 1 = .ok (.iconst 1, 1) := by decide +kernel
theorem dX11_weeks_2 : decode cX11_weeks 2 = .ok (.if_icmp .lt 22, 3) := by decide +kernel
theorem dX11_weeks_5 : decode cX11_weeks 5 = .ok (.iload_n 1, 1) := by decide +kernel
theorem dX11_weeks_6 : decode cX11_weeks 6 = .ok (.bipush 60, 2) := by decide +kernel
theorem dX11_weeks_8 : decode cX11_weeks 8 = .ok (.if_icmp .gt 16, 3) := by decide +kernel
theorem dX11_weeks_11 : decode cX11_weeks 11 = .ok (.iload_n 2, 1) := by decide +kernel
theorem dX11_weeks_12 : decode cX11_weeks 12 = .ok (.ifCond .lt 12, 3) := by decide +kernel
theorem dX11_weeks_15 : decode cX11_weeks 15 = .ok (.iload_n 3, 1) := by decide +kernel
theorem dX11_weeks_16 : decode cX11_weeks 16 = .ok (.ifCond .lt 8, 3) := by decide +kernel
theorem dX11_weeks_19 : decode cX11_weeks 19 = .ok (.iload_n 3, 1) := by decide +kernel
theorem dX11_weeks_20 : decode cX11_weeks 20 = .ok (.iconst 3, 1) := by decide +kernel
theorem dX11_weeks_21 : decode cX11_weeks 21 = .ok (.if_icmp .le 6, 3) := by decide +kernel
theorem dX11_weeks_24 : decode cX11_weeks 24 = .ok (.bipush (-102), 2) := by decide +kernel
theorem dX11_weeks_26 : decode cX11_weeks 26 = .ok (.ireturn, 1) := by decide +kernel
theorem dX11_weeks_27 : decode cX11_weeks 27 = .ok (.aload_n 0, 1) := by decide +kernel
theorem dX11_weeks_28 : decode cX11_weeks 28 = .ok (.getfield 102, 3) := by decide +kernel
theorem dX11_weeks_31 : decode cX11_weeks 31 = .ok (.ifCond .ne 6, 3) := by decide +kernel
theorem dX11_weeks_34 : decode cX11_weeks 34 = .ok (.bipush (-103), 2) := by decide +kernel
theorem dX11_weeks_36 : decode cX11_weeks 36 = .ok (.ireturn, 1) := by decide +kernel
theorem dX11_weeks_37 : decode cX11_weeks 37 = .ok (.aload_n 0, 1) := by decide +kernel
theorem dX11_weeks_38 : decode cX11_weeks 38 = .ok (.getfield 62, 3) := by decide +kernel
theorem dX11_weeks_41 : decode cX11_weeks 41 = .ok (.aload_n 0, 1) := by decide +kernel
theorem dX11_weeks_42 : decode cX11_weeks 42 = .ok (.getfield 58, 3) := by decide +kernel
theorem dX11_weeks_45 : decode cX11_weeks 45 = .ok (.invokevirtual 231, 3) := by decide +kernel
theorem dX11_weeks_48 : decode cX11_weeks 48 = .ok (.new 235, 3) := by decide +kernel
theorem dX11_weeks_51 : decode cX11_weeks 51 = .ok (.dup, 1) := by decide +kernel
theorem dX11_weeks_52 : decode cX11_weeks 52 = .ok (.iload_n 2, 1) := by decide +kernel
theorem dX11_weeks_53 : decode cX11_weeks 53 = .ok (.invokespecial 237, 3) := by decide +kernel
theorem dX11_weeks_56 : decode cX11_weeks 56 = .ok (.astore 4, 2) := by decide +kernel
theorem dX11_weeks_58 : decode cX11_weeks 58 = .ok (.iconst 0, 1) := by decide +kernel
theorem dX11_weeks_59 : decode cX11_weeks 59 = .ok (.istore 5, 2) := by decide +kernel
theorem dX11_weeks_61 : decode cX11_weeks 61 = .ok (.iload 5, 2) := by decide +kernel
theorem dX11_weeks_63 : decode cX11_weeks 63 = .ok (.iload_n 1, 1) := by decide +kernel
theorem dX11_weeks_64 : decode cX11_weeks 64 = .ok (.if_icmp .ge 15, 3) := by decide +kernel
theorem dX11_weeks_67 : decode cX11_weeks 67 = .ok (.aload_n 0, 1) := by decide +kernel
theorem dX11_weeks_68 : decode cX11_weeks 68 = .ok (.aload 4, 2) := by decide +kernel
theorem dX11_weeks_70 : decode cX11_weeks 70 = .ok (.invokevirtual 239, 3) := by decide +kernel
theorem dX11_weeks_73 : decode cX11_weeks 73 = .ok (.iinc 5 1, 3) := by decide +kernel
theorem dX11_weeks_76 : decode cX11_weeks 76 = .ok (.goto (-15), 3) := by decide +kernel
theorem dX11_weeks_79 : decode cX11_weeks 79 = .ok (.iload_n 3, 1) := by decide +kernel
theorem dX11_weeks_80 : decode cX11_weeks 80 = .ok (.tableswitch 52 0 2 #[28, 36, 44], 28) := by decide +kernel
theorem dX11_weeks_108 : decode cX11_weeks 108 = .ok (.aload_n 0, 1) := by decide +kernel
theorem dX11_weeks_109 : decode cX11_weeks 109 = .ok (.getfield 62, 3) := by decide +kernel
theorem dX11_weeks_112 : decode cX11_weeks 112 = .ok (.getfield 243, 3) := by decide +kernel
theorem dX11_weeks_115 : decode cX11_weeks 115 = .ok (.ireturn, 1) := by decide +kernel
theorem dX11_weeks_116 : decode cX11_weeks 116 = .ok (.aload_n 0, 1) := by decide +kernel
theorem dX11_weeks_117 : decode cX11_weeks 117 = .ok (.getfield 62, 3) := by decide +kernel
theorem dX11_weeks_120 : decode cX11_weeks 120 = .ok (.invokevirtual 244, 3) := by decide +kernel
theorem dX11_weeks_123 : decode cX11_weeks 123 = .ok (.ireturn, 1) := by decide +kernel
theorem dX11_weeks_124 : decode cX11_weeks 124 = .ok (.aload_n 0, 1) := by decide +kernel
theorem dX11_weeks_125 : decode cX11_weeks 125 = .ok (.getfield 62, 3) := by decide +kernel
theorem dX11_weeks_128 : decode cX11_weeks 128 = .ok (.invokevirtual 248, 3) := by decide +kernel
theorem dX11_weeks_131 : decode cX11_weeks 131 = .ok (.ireturn, 1) := by decide +kernel
theorem dX11_weeks_132 : decode cX11_weeks 132 = .ok (.aload 4, 2) := by decide +kernel
theorem dX11_weeks_134 : decode cX11_weeks 134 = .ok (.getfield 251, 3) := by decide +kernel
theorem dX11_weeks_137 : decode cX11_weeks 137 = .ok (.ireturn, 1) := by decide +kernel
theorem dX11_with_0 : decode cX11_with 0 = .ok (.ldc2_w 309, 3) := by decide +kernel
theorem dX11_with_3 : decode cX11_with 3 = .ok (.lload_n 0, 1) := by decide +kernel
theorem dX11_with_4 : decode cX11_with 4 = .ok (.lmul, 1) := by decide +kernel
theorem dX11_with_5 : decode cX11_with 5 = .ok (.iload_n 2, 1) := by decide +kernel
theorem dX11_with_6 : decode cX11_with 6 = .ok (.i2l, 1) := by decide +kernel
theorem dX11_with_7 : decode cX11_with 7 = .ok (.ladd, 1) := by decide +kernel
theorem dX11_with_8 : decode cX11_with 8 = .ok (.lreturn, 1) := by decide +kernel
theorem dX11_withFavour_0 : decode cX11_withFavour 0 = .ok (.lload_n 1, 1) := by decide +kernel
theorem dX11_withFavour_1 : decode cX11_withFavour 1 = .ok (.lstore 4, 2) := by decide +kernel
theorem dX11_withFavour_3 : decode cX11_withFavour 3 = .ok (.iconst 0, 1) := by decide +kernel
theorem dX11_withFavour_4 : decode cX11_withFavour 4 = .ok (.istore 6, 2) := by decide +kernel
theorem dX11_withFavour_6 : decode cX11_withFavour 6 = .ok (.iload 6, 2) := by decide +kernel
theorem dX11_withFavour_8 : decode cX11_withFavour 8 = .ok (.bipush 7, 2) := by decide +kernel
theorem dX11_withFavour_10 : decode cX11_withFavour 10 = .ok (.if_icmp .gt 23, 3) := by decide +kernel
theorem dX11_withFavour_13 : decode cX11_withFavour 13 = .ok (.lload 4, 2) := by decide +kernel
theorem dX11_withFavour_15 : decode cX11_withFavour 15 = .ok (.aload_n 0, 1) := by decide +kernel
theorem dX11_withFavour_16 : decode cX11_withFavour 16 = .ok (.iload_n 3, 1) := by decide +kernel
theorem dX11_withFavour_17 : decode cX11_withFavour 17 = .ok (.iload 6, 2) := by decide +kernel
theorem dX11_withFavour_19 : decode cX11_withFavour 19 = .ok (.invokevirtual 306, 3) := by decide +kernel
theorem dX11_withFavour_22 : decode cX11_withFavour 22 = .ok (.invokestatic 291, 3) := by decide +kernel
theorem dX11_withFavour_25 : decode cX11_withFavour 25 = .ok (.lstore 4, 2) := by decide +kernel
theorem dX11_withFavour_27 : decode cX11_withFavour 27 = .ok (.iinc 6 1, 3) := by decide +kernel
theorem dX11_withFavour_30 : decode cX11_withFavour 30 = .ok (.goto (-24), 3) := by decide +kernel
theorem dX11_withFavour_33 : decode cX11_withFavour 33 = .ok (.aload_n 0, 1) := by decide +kernel
theorem dX11_withFavour_34 : decode cX11_withFavour 34 = .ok (.getfield 58, 3) := by decide +kernel
theorem dX11_withFavour_37 : decode cX11_withFavour 37 = .ok (.iload_n 3, 1) := by decide +kernel
theorem dX11_withFavour_38 : decode cX11_withFavour 38 = .ok (.invokevirtual 200, 3) := by decide +kernel
theorem dX11_withFavour_41 : decode cX11_withFavour 41 = .ok (.ifCond .eq 35, 3) := by decide +kernel
theorem dX11_withFavour_44 : decode cX11_withFavour 44 = .ok (.lload 4, 2) := by decide +kernel
theorem dX11_withFavour_46 : decode cX11_withFavour 46 = .ok (.aload_n 0, 1) := by decide +kernel
theorem dX11_withFavour_47 : decode cX11_withFavour 47 = .ok (.getfield 44, 3) := by decide +kernel
theorem dX11_withFavour_50 : decode cX11_withFavour 50 = .ok (.aload_n 0, 1) := by decide +kernel
theorem dX11_withFavour_51 : decode cX11_withFavour 51 = .ok (.getfield 58, 3) := by decide +kernel
theorem dX11_withFavour_54 : decode cX11_withFavour 54 = .ok (.getfield 170, 3) := by decide +kernel
theorem dX11_withFavour_57 : decode cX11_withFavour 57 = .ok (.iload_n 3, 1) := by decide +kernel
theorem dX11_withFavour_58 : decode cX11_withFavour 58 = .ok (.iaload, 1) := by decide +kernel
theorem dX11_withFavour_59 : decode cX11_withFavour 59 = .ok (.aload_n 0, 1) := by decide +kernel
theorem dX11_withFavour_60 : decode cX11_withFavour 60 = .ok (.getfield 58, 3) := by decide +kernel
theorem dX11_withFavour_63 : decode cX11_withFavour 63 = .ok (.getfield 173, 3) := by decide +kernel
theorem dX11_withFavour_66 : decode cX11_withFavour 66 = .ok (.iload_n 3, 1) := by decide +kernel
theorem dX11_withFavour_67 : decode cX11_withFavour 67 = .ok (.iaload, 1) := by decide +kernel
theorem dX11_withFavour_68 : decode cX11_withFavour 68 = .ok (.invokevirtual 210, 3) := by decide +kernel
theorem dX11_withFavour_71 : decode cX11_withFavour 71 = .ok (.invokestatic 291, 3) := by decide +kernel
theorem dX11_withFavour_74 : decode cX11_withFavour 74 = .ok (.lstore 4, 2) := by decide +kernel
theorem dX11_withFavour_76 : decode cX11_withFavour 76 = .ok (.lload 4, 2) := by decide +kernel
theorem dX11_withFavour_78 : decode cX11_withFavour 78 = .ok (.lreturn, 1) := by decide +kernel
theorem dX11_withPerson_0 : decode cX11_withPerson 0 = .ok (.lload_n 1, 1) := by decide +kernel
theorem dX11_withPerson_1 : decode cX11_withPerson 1 = .ok (.lstore 4, 2) := by decide +kernel
theorem dX11_withPerson_3 : decode cX11_withPerson 3 = .ok (.iconst 0, 1) := by decide +kernel
theorem dX11_withPerson_4 : decode cX11_withPerson 4 = .ok (.istore 6, 2) := by decide +kernel
theorem dX11_withPerson_6 : decode cX11_withPerson 6 = .ok (.iload 6, 2) := by decide +kernel
theorem dX11_withPerson_8 : decode cX11_withPerson 8 = .ok (.iconst 5, 1) := by decide +kernel
theorem dX11_withPerson_9 : decode cX11_withPerson 9 = .ok (.if_icmp .gt 23, 3) := by decide +kernel
theorem dX11_withPerson_12 : decode cX11_withPerson 12 = .ok (.lload 4, 2) := by decide +kernel
theorem dX11_withPerson_14 : decode cX11_withPerson 14 = .ok (.aload_n 0, 1) := by decide +kernel
theorem dX11_withPerson_15 : decode cX11_withPerson 15 = .ok (.iload_n 3, 1) := by decide +kernel
theorem dX11_withPerson_16 : decode cX11_withPerson 16 = .ok (.iload 6, 2) := by decide +kernel
theorem dX11_withPerson_18 : decode cX11_withPerson 18 = .ok (.invokevirtual 300, 3) := by decide +kernel
theorem dX11_withPerson_21 : decode cX11_withPerson 21 = .ok (.invokestatic 291, 3) := by decide +kernel
theorem dX11_withPerson_24 : decode cX11_withPerson 24 = .ok (.lstore 4, 2) := by decide +kernel
theorem dX11_withPerson_26 : decode cX11_withPerson 26 = .ok (.iinc 6 1, 3) := by decide +kernel
theorem dX11_withPerson_29 : decode cX11_withPerson 29 = .ok (.goto (-23), 3) := by decide +kernel
theorem dX11_withPerson_32 : decode cX11_withPerson 32 = .ok (.iconst 0, 1) := by decide +kernel
theorem dX11_withPerson_33 : decode cX11_withPerson 33 = .ok (.istore 6, 2) := by decide +kernel
theorem dX11_withPerson_35 : decode cX11_withPerson 35 = .ok (.iload 6, 2) := by decide +kernel
theorem dX11_withPerson_37 : decode cX11_withPerson 37 = .ok (.aload_n 0, 1) := by decide +kernel
theorem dX11_withPerson_38 : decode cX11_withPerson 38 = .ok (.getfield 26, 3) := by decide +kernel
theorem dX11_withPerson_41 : decode cX11_withPerson 41 = .ok (.getfield 122, 3) := by decide +kernel
theorem dX11_withPerson_44 : decode cX11_withPerson 44 = .ok (.if_icmp .ge 29, 3) := by decide +kernel
theorem dX11_withPerson_47 : decode cX11_withPerson 47 = .ok (.iload 6, 2) := by decide +kernel
theorem dX11_withPerson_49 : decode cX11_withPerson 49 = .ok (.iload_n 3, 1) := by decide +kernel
theorem dX11_withPerson_50 : decode cX11_withPerson 50 = .ok (.if_icmp .eq 17, 3) := by decide +kernel
theorem dX11_withPerson_53 : decode cX11_withPerson 53 = .ok (.lload 4, 2) := by decide +kernel
theorem dX11_withPerson_55 : decode cX11_withPerson 55 = .ok (.aload_n 0, 1) := by decide +kernel
theorem dX11_withPerson_56 : decode cX11_withPerson 56 = .ok (.iload_n 3, 1) := by decide +kernel
theorem dX11_withPerson_57 : decode cX11_withPerson 57 = .ok (.iload 6, 2) := by decide +kernel
theorem dX11_withPerson_59 : decode cX11_withPerson 59 = .ok (.invokevirtual 303, 3) := by decide +kernel
theorem dX11_withPerson_62 : decode cX11_withPerson 62 = .ok (.invokestatic 291, 3) := by decide +kernel
theorem dX11_withPerson_65 : decode cX11_withPerson 65 = .ok (.lstore 4, 2) := by decide +kernel
theorem dX11_withPerson_67 : decode cX11_withPerson 67 = .ok (.iinc 6 1, 3) := by decide +kernel
theorem dX11_withPerson_70 : decode cX11_withPerson 70 = .ok (.goto (-35), 3) := by decide +kernel
theorem dX11_withPerson_73 : decode cX11_withPerson 73 = .ok (.lload 4, 2) := by decide +kernel
theorem dX11_withPerson_75 : decode cX11_withPerson 75 = .ok (.aload_n 0, 1) := by decide +kernel
theorem dX11_withPerson_76 : decode cX11_withPerson 76 = .ok (.getfield 51, 3) := by decide +kernel
theorem dX11_withPerson_79 : decode cX11_withPerson 79 = .ok (.iload_n 3, 1) := by decide +kernel
theorem dX11_withPerson_80 : decode cX11_withPerson 80 = .ok (.iconst 2, 1) := by decide +kernel
theorem dX11_withPerson_81 : decode cX11_withPerson 81 = .ok (.invokevirtual 219, 3) := by decide +kernel
theorem dX11_withPerson_84 : decode cX11_withPerson 84 = .ok (.invokestatic 291, 3) := by decide +kernel
theorem dX11_withPerson_87 : decode cX11_withPerson 87 = .ok (.lstore 4, 2) := by decide +kernel
theorem dX11_withPerson_89 : decode cX11_withPerson 89 = .ok (.lload 4, 2) := by decide +kernel
theorem dX11_withPerson_91 : decode cX11_withPerson 91 = .ok (.aload_n 0, 1) := by decide +kernel
theorem dX11_withPerson_92 : decode cX11_withPerson 92 = .ok (.getfield 51, 3) := by decide +kernel
theorem dX11_withPerson_95 : decode cX11_withPerson 95 = .ok (.iload_n 3, 1) := by decide +kernel
theorem dX11_withPerson_96 : decode cX11_withPerson 96 = .ok (.iconst 3, 1) := by decide +kernel
theorem dX11_withPerson_97 : decode cX11_withPerson 97 = .ok (.invokevirtual 219, 3) := by decide +kernel
theorem dX11_withPerson_100 : decode cX11_withPerson 100 = .ok (.invokestatic 291, 3) := by decide +kernel
theorem dX11_withPerson_103 : decode cX11_withPerson 103 = .ok (.lreturn, 1) := by decide +kernel
theorem dX12_about_0 : decode cX12_about 0 = .ok (.aload_n 0, 1) := by decide +kernel
theorem dX12_about_1 : decode cX12_about 1 = .ok (.iload_n 1, 1) := by decide +kernel
theorem dX12_about_2 : decode cX12_about 2 = .ok (.invokevirtual 138, 3) := by decide +kernel
theorem dX12_about_5 : decode cX12_about 5 = .ok (.ifCond .eq 12, 3) := by decide +kernel
theorem dX12_about_8 : decode cX12_about 8 = .ok (.aload_n 0, 1) := by decide +kernel
theorem dX12_about_9 : decode cX12_about 9 = .ok (.iload_n 1, 1) := by decide +kernel
theorem dX12_about_10 : decode cX12_about 10 = .ok (.iload_n 2, 1) := by decide +kernel
theorem dX12_about_11 : decode cX12_about 11 = .ok (.invokevirtual 183, 3) := by decide +kernel
theorem dX12_about_14 : decode cX12_about 14 = .ok (.goto 5, 3) := by decide +kernel
theorem dX12_about_17 : decode cX12_about 17 = .ok (.bipush (-101), 2) := by decide +kernel
theorem dX12_about_19 : decode cX12_about 19 = .ok (.ireturn, 1) := by decide +kernel
theorem dX12_aheadOf_0 : decode cX12_aheadOf 0 = .ok (.iconst 0, 1) := by decide +kernel
theorem dX12_aheadOf_1 : decode cX12_aheadOf 1 = .ok (.istore_n 2, 1) := by decide +kernel
theorem dX12_aheadOf_2 : decode cX12_aheadOf 2 = .ok (.iload_n 1, 1) := by decide +kernel
theorem dX12_aheadOf_3 : decode cX12_aheadOf 3 = .ok (.istore_n 3, 1) := by decide +kernel
theorem dX12_aheadOf_4 : decode cX12_aheadOf 4 = .ok (.aload_n 0, 1) := by decide +kernel
theorem dX12_aheadOf_5 : decode cX12_aheadOf 5 = .ok (.getfield 28, 3) := by decide +kernel
theorem dX12_aheadOf_8 : decode cX12_aheadOf 8 = .ok (.bipush 6, 2) := by decide +kernel
theorem dX12_aheadOf_10 : decode cX12_aheadOf 10 = .ok (.iload_n 3, 1) := by decide +kernel
theorem dX12_aheadOf_11 : decode cX12_aheadOf 11 = .ok (.imul, 1) := by decide +kernel
theorem dX12_aheadOf_12 : decode cX12_aheadOf 12 = .ok (.iconst 4, 1) := by decide +kernel
theorem dX12_aheadOf_13 : decode cX12_aheadOf 13 = .ok (.iadd, 1) := by decide +kernel
theorem dX12_aheadOf_14 : decode cX12_aheadOf 14 = .ok (.iaload, 1) := by decide +kernel
theorem dX12_aheadOf_15 : decode cX12_aheadOf 15 = .ok (.iconst (-1), 1) := by decide +kernel
theorem dX12_aheadOf_16 : decode cX12_aheadOf 16 = .ok (.if_icmp .eq 21, 3) := by decide +kernel
theorem dX12_aheadOf_19 : decode cX12_aheadOf 19 = .ok (.aload_n 0, 1) := by decide +kernel
theorem dX12_aheadOf_20 : decode cX12_aheadOf 20 = .ok (.getfield 28, 3) := by decide +kernel
theorem dX12_aheadOf_23 : decode cX12_aheadOf 23 = .ok (.bipush 6, 2) := by decide +kernel
theorem dX12_aheadOf_25 : decode cX12_aheadOf 25 = .ok (.iload_n 3, 1) := by decide +kernel
theorem dX12_aheadOf_26 : decode cX12_aheadOf 26 = .ok (.imul, 1) := by decide +kernel
theorem dX12_aheadOf_27 : decode cX12_aheadOf 27 = .ok (.iconst 4, 1) := by decide +kernel
theorem dX12_aheadOf_28 : decode cX12_aheadOf 28 = .ok (.iadd, 1) := by decide +kernel
theorem dX12_aheadOf_29 : decode cX12_aheadOf 29 = .ok (.iaload, 1) := by decide +kernel
theorem dX12_aheadOf_30 : decode cX12_aheadOf 30 = .ok (.istore_n 3, 1) := by decide +kernel
theorem dX12_aheadOf_31 : decode cX12_aheadOf 31 = .ok (.iinc 2 1, 3) := by decide +kernel
theorem dX12_aheadOf_34 : decode cX12_aheadOf 34 = .ok (.goto (-30), 3) := by decide +kernel
theorem dX12_aheadOf_37 : decode cX12_aheadOf 37 = .ok (.iload_n 2, 1) := by decide +kernel
theorem dX12_aheadOf_38 : decode cX12_aheadOf 38 = .ok (.ireturn, 1) := by decide +kernel
theorem dX12_areKin_0 : decode cX12_areKin 0 = .ok (.aload_n 0, 1) := by decide +kernel
theorem dX12_areKin_1 : decode cX12_areKin 1 = .ok (.getfield 19, 3) := by decide +kernel
theorem dX12_areKin_4 : decode cX12_areKin 4 = .ok (.iload_n 1, 1) := by decide +kernel
theorem dX12_areKin_5 : decode cX12_areKin 5 = .ok (.iaload, 1) := by decide +kernel
theorem dX12_areKin_6 : decode cX12_areKin 6 = .ok (.iload_n 2, 1) := by decide +kernel
theorem dX12_areKin_7 : decode cX12_areKin 7 = .ok (.ishr, 1) := by decide +kernel
theorem dX12_areKin_8 : decode cX12_areKin 8 = .ok (.iconst 1, 1) := by decide +kernel
theorem dX12_areKin_9 : decode cX12_areKin 9 = .ok (.iand, 1) := by decide +kernel
theorem dX12_areKin_10 : decode cX12_areKin 10 = .ok (.iconst 1, 1) := by decide +kernel
theorem dX12_areKin_11 : decode cX12_areKin 11 = .ok (.if_icmp .ne 7, 3) := by decide +kernel
theorem dX12_areKin_14 : decode cX12_areKin 14 = .ok (.iconst 1, 1) := by decide +kernel
theorem dX12_areKin_15 : decode cX12_areKin 15 = .ok (.goto 4, 3) := by decide +kernel
theorem dX12_areKin_18 : decode cX12_areKin 18 = .ok (.iconst 0, 1) := by decide +kernel
theorem dX12_areKin_19 : decode cX12_areKin 19 = .ok (.ireturn, 1) := by decide +kernel
theorem dX12_areNamed_0 : decode cX12_areNamed 0 = .ok (.aload_n 0, 1) := by decide +kernel
theorem dX12_areNamed_1 : decode cX12_areNamed 1 = .ok (.iload_n 1, 1) := by decide +kernel
theorem dX12_areNamed_2 : decode cX12_areNamed 2 = .ok (.iload_n 2, 1) := by decide +kernel
theorem dX12_areNamed_3 : decode cX12_areNamed 3 = .ok (.invokevirtual 157, 3) := by decide +kernel
theorem dX12_areNamed_6 : decode cX12_areNamed 6 = .ok (.ifCond .eq 20, 3) := by decide +kernel
theorem dX12_areNamed_9 : decode cX12_areNamed 9 = .ok (.iload_n 3, 1) := by decide +kernel
theorem dX12_areNamed_10 : decode cX12_areNamed 10 = .ok (.iconst (-1), 1) := by decide +kernel
theorem dX12_areNamed_11 : decode cX12_areNamed 11 = .ok (.if_icmp .eq 11, 3) := by decide +kernel
theorem dX12_areNamed_14 : decode cX12_areNamed 14 = .ok (.aload_n 0, 1) := by decide +kernel
theorem dX12_areNamed_15 : decode cX12_areNamed 15 = .ok (.iload_n 3, 1) := by decide +kernel
theorem dX12_areNamed_16 : decode cX12_areNamed 16 = .ok (.invokevirtual 193, 3) := by decide +kernel
theorem dX12_areNamed_19 : decode cX12_areNamed 19 = .ok (.ifCond .eq 7, 3) := by decide +kernel
theorem dX12_areNamed_22 : decode cX12_areNamed 22 = .ok (.iconst 1, 1) := by decide +kernel
theorem dX12_areNamed_23 : decode cX12_areNamed 23 = .ok (.goto 4, 3) := by decide +kernel
theorem dX12_areNamed_26 : decode cX12_areNamed 26 = .ok (.iconst 0, 1) := by decide +kernel
theorem dX12_areNamed_27 : decode cX12_areNamed 27 = .ok (.ireturn, 1) := by decide +kernel
theorem dX12_arePair_0 : decode cX12_arePair 0 = .ok (.aload_n 0, 1) := by decide +kernel
theorem dX12_arePair_1 : decode cX12_arePair 1 = .ok (.iload_n 1, 1) := by decide +kernel
theorem dX12_arePair_2 : decode cX12_arePair 2 = .ok (.invokevirtual 138, 3) := by decide +kernel
theorem dX12_arePair_5 : decode cX12_arePair 5 = .ok (.ifCond .eq 20, 3) := by decide +kernel
theorem dX12_arePair_8 : decode cX12_arePair 8 = .ok (.aload_n 0, 1) := by decide +kernel
theorem dX12_arePair_9 : decode cX12_arePair 9 = .ok (.iload_n 2, 1) := by decide +kernel
theorem dX12_arePair_10 : decode cX12_arePair 10 = .ok (.invokevirtual 138, 3) := by decide +kernel
theorem dX12_arePair_13 : decode cX12_arePair 13 = .ok (.ifCond .eq 12, 3) := by decide +kernel
theorem dX12_arePair_16 : decode cX12_arePair 16 = .ok (.iload_n 1, 1) := by decide +kernel
theorem dX12_arePair_17 : decode cX12_arePair 17 = .ok (.iload_n 2, 1) := by decide +kernel
theorem dX12_arePair_18 : decode cX12_arePair 18 = .ok (.if_icmp .eq 7, 3) := by decide +kernel
theorem dX12_arePair_21 : decode cX12_arePair 21 = .ok (.iconst 1, 1) := by decide +kernel
theorem dX12_arePair_22 : decode cX12_arePair 22 = .ok (.goto 4, 3) := by decide +kernel
theorem dX12_arePair_25 : decode cX12_arePair 25 = .ok (.iconst 0, 1) := by decide +kernel
theorem dX12_arePair_26 : decode cX12_arePair 26 = .ok (.ireturn, 1) := by decide +kernel
theorem dX12_as_0 : decode cX12_as 0 = .ok (.aload_n 0, 1) := by decide +kernel
theorem dX12_as_1 : decode cX12_as 1 = .ok (.iload_n 1, 1) := by decide +kernel
theorem dX12_as_2 : decode cX12_as 2 = .ok (.invokevirtual 138, 3) := by decide +kernel
theorem dX12_as_5 : decode cX12_as 5 = .ok (.ifCond .ne 6, 3) := by decide +kernel
theorem dX12_as_8 : decode cX12_as 8 = .ok (.bipush (-101), 2) := by decide +kernel
theorem dX12_as_10 : decode cX12_as 10 = .ok (.ireturn, 1) := by decide +kernel
theorem dX12_as_11 : decode cX12_as 11 = .ok (.iload_n 2, 1) := by decide +kernel
theorem dX12_as_12 : decode cX12_as 12 = .ok (.i2l, 1) := by decide +kernel
theorem dX12_as_13 : decode cX12_as 13 = .ok (.lconst 0, 1) := by decide +kernel
theorem dX12_as_14 : decode cX12_as 14 = .ok (.ldc2_w 164, 3) := by decide +kernel
theorem dX12_as_17 : decode cX12_as 17 = .ok (.invokestatic 70, 3) := by decide +kernel
theorem dX12_as_20 : decode cX12_as 20 = .ok (.ifCond .ne 6, 3) := by decide +kernel
theorem dX12_as_23 : decode cX12_as 23 = .ok (.bipush (-102), 2) := by decide +kernel
theorem dX12_as_25 : decode cX12_as 25 = .ok (.ireturn, 1) := by decide +kernel
theorem dX12_as_26 : decode cX12_as 26 = .ok (.aload_n 0, 1) := by decide +kernel
theorem dX12_as_27 : decode cX12_as 27 = .ok (.getfield 25, 3) := by decide +kernel
theorem dX12_as_30 : decode cX12_as 30 = .ok (.iload_n 1, 1) := by decide +kernel
theorem dX12_as_31 : decode cX12_as 31 = .ok (.iaload, 1) := by decide +kernel
theorem dX12_as_32 : decode cX12_as 32 = .ok (.istore_n 3, 1) := by decide +kernel
theorem dX12_as_33 : decode cX12_as 33 = .ok (.iload_n 2, 1) := by decide +kernel
theorem dX12_as_34 : decode cX12_as 34 = .ok (.ifCond .eq 18, 3) := by decide +kernel
theorem dX12_as_37 : decode cX12_as 37 = .ok (.iload_n 2, 1) := by decide +kernel
theorem dX12_as_38 : decode cX12_as 38 = .ok (.iload_n 3, 1) := by decide +kernel
theorem dX12_as_39 : decode cX12_as 39 = .ok (.if_icmp .eq 13, 3) := by decide +kernel
theorem dX12_as_42 : decode cX12_as 42 = .ok (.iload_n 2, 1) := by decide +kernel
theorem dX12_as_43 : decode cX12_as 43 = .ok (.iconst 3, 1) := by decide +kernel
theorem dX12_as_44 : decode cX12_as 44 = .ok (.if_icmp .ne 12, 3) := by decide +kernel
theorem dX12_as_47 : decode cX12_as 47 = .ok (.iload_n 3, 1) := by decide +kernel
theorem dX12_as_48 : decode cX12_as 48 = .ok (.iconst 4, 1) := by decide +kernel
theorem dX12_as_49 : decode cX12_as 49 = .ok (.if_icmp .ne 7, 3) := by decide +kernel
theorem dX12_as_52 : decode cX12_as 52 = .ok (.iconst 1, 1) := by decide +kernel
theorem dX12_as_53 : decode cX12_as 53 = .ok (.goto 4, 3) := by decide +kernel
theorem dX12_as_56 : decode cX12_as 56 = .ok (.iconst 0, 1) := by decide +kernel
theorem dX12_as_57 : decode cX12_as 57 = .ok (.istore 4, 2) := by decide +kernel
theorem dX12_as_59 : decode cX12_as 59 = .ok (.iload 4, 2) := by decide +kernel
theorem dX12_as_61 : decode cX12_as 61 = .ok (.ifCond .eq 7, 3) := by decide +kernel
theorem dX12_as_64 : decode cX12_as 64 = .ok (.iload_n 1, 1) := by decide +kernel
theorem dX12_as_65 : decode cX12_as 65 = .ok (.goto 4, 3) := by decide +kernel
theorem dX12_as_68 : decode cX12_as 68 = .ok (.iconst (-1), 1) := by decide +kernel
theorem dX12_as_69 : decode cX12_as 69 = .ok (.ireturn, 1) := by decide +kernel
theorem dX12_bars_0 : decode cX12_bars 0 = .ok (.aload_n 0, 1) := by decide +kernel
theorem dX12_bars_1 : decode cX12_bars 1 = .ok (.iload_n 1, 1) := by decide +kernel
theorem dX12_bars_2 : decode cX12_bars 2 = .ok (.invokevirtual 193, 3) := by decide +kernel
theorem dX12_bars_5 : decode cX12_bars 5 = .ok (.ifCond .eq 11, 3) := by decide +kernel
theorem dX12_bars_8 : decode cX12_bars 8 = .ok (.aload_n 0, 1) := by decide +kernel
theorem dX12_bars_9 : decode cX12_bars 9 = .ok (.iload_n 2, 1) := by decide +kernel
theorem dX12_bars_10 : decode cX12_bars 10 = .ok (.invokevirtual 138, 3) := by decide +kernel
theorem dX12_bars_13 : decode cX12_bars 13 = .ok (.ifCond .ne 6, 3) := by decide +kernel
theorem dX12_bars_16 : decode cX12_bars 16 = .ok (.bipush (-101), 2) := by decide +kernel
theorem dX12_bars_18 : decode cX12_bars 18 = .ok (.ireturn, 1) := by decide +kernel
theorem dX12_bars_19 : decode cX12_bars 19 = .ok (.aload_n 0, 1) := by decide +kernel
theorem dX12_bars_20 : decode cX12_bars 20 = .ok (.iload_n 1, 1) := by decide +kernel
theorem dX12_bars_21 : decode cX12_bars 21 = .ok (.invokevirtual 174, 3) := by decide +kernel
theorem dX12_bars_24 : decode cX12_bars 24 = .ok (.ifCond .ne 6, 3) := by decide +kernel
theorem dX12_bars_27 : decode cX12_bars 27 = .ok (.bipush (-103), 2) := by decide +kernel
theorem dX12_bars_29 : decode cX12_bars 29 = .ok (.ireturn, 1) := by decide +kernel
theorem dX12_bars_30 : decode cX12_bars 30 = .ok (.aload_n 0, 1) := by decide +kernel
theorem dX12_bars_31 : decode cX12_bars 31 = .ok (.iload_n 1, 1) := by decide +kernel
theorem dX12_bars_32 : decode cX12_bars 32 = .ok (.invokevirtual 224, 3) := by decide +kernel
theorem dX12_bars_35 : decode cX12_bars 35 = .ok (.aload_n 0, 1) := by decide +kernel
theorem dX12_bars_36 : decode cX12_bars 36 = .ok (.iload_n 2, 1) := by decide +kernel
theorem dX12_bars_37 : decode cX12_bars 37 = .ok (.invokevirtual 221, 3) := by decide +kernel
theorem dX12_bars_40 : decode cX12_bars 40 = .ok (.iconst (-1), 1) := by decide +kernel
theorem dX12_bars_41 : decode cX12_bars 41 = .ok (.if_icmp .ne 5, 3) := by decide +kernel
theorem dX12_bars_44 : decode cX12_bars 44 = .ok (.iconst (-1), 1) := by decide +kernel
theorem dX12_bars_45 : decode cX12_bars 45 = .ok (.ireturn, 1) := by decide +kernel
theorem dX12_bars_46 : decode cX12_bars 46 = .ok (.iconst (-1), 1) := by decide +kernel
theorem dX12_bars_47 : decode cX12_bars 47 = .ok (.istore_n 3, 1) := by decide +kernel
theorem dX12_bars_48 : decode cX12_bars 48 = .ok (.iconst 0, 1) := by decide +kernel
theorem dX12_bars_49 : decode cX12_bars 49 = .ok (.istore 4, 2) := by decide +kernel
theorem dX12_bars_51 : decode cX12_bars 51 = .ok (.iload 4, 2) := by decide +kernel
theorem dX12_bars_53 : decode cX12_bars 53 = .ok (.aload_n 0, 1) := by decide +kernel
theorem dX12_bars_54 : decode cX12_bars 54 = .ok (.getfield 126, 3) := by decide +kernel
theorem dX12_bars_57 : decode cX12_bars 57 = .ok (.if_icmp .ge 63, 3) := by decide +kernel
theorem dX12_bars_60 : decode cX12_bars 60 = .ok (.iload_n 3, 1) := by decide +kernel
theorem dX12_bars_61 : decode cX12_bars 61 = .ok (.iconst (-1), 1) := by decide +kernel
theorem dX12_bars_62 : decode cX12_bars 62 = .ok (.if_icmp .ne 58, 3) := by decide +kernel
theorem dX12_bars_65 : decode cX12_bars 65 = .ok (.iload 4, 2) := by decide +kernel
theorem dX12_bars_67 : decode cX12_bars 67 = .ok (.iload_n 2, 1) := by decide +kernel
theorem dX12_bars_68 : decode cX12_bars 68 = .ok (.if_icmp .eq 46, 3) := by decide +kernel
theorem dX12_bars_71 : decode cX12_bars 71 = .ok (.iload 4, 2) := by decide +kernel
theorem dX12_bars_73 : decode cX12_bars 73 = .ok (.aload_n 0, 1) := by decide +kernel
theorem dX12_bars_74 : decode cX12_bars 74 = .ok (.getfield 28, 3) := by decide +kernel
theorem dX12_bars_77 : decode cX12_bars 77 = .ok (.bipush 6, 2) := by decide +kernel
theorem dX12_bars_79 : decode cX12_bars 79 = .ok (.iload_n 1, 1) := by decide +kernel
theorem dX12_bars_80 : decode cX12_bars 80 = .ok (.imul, 1) := by decide +kernel
theorem dX12_bars_81 : decode cX12_bars 81 = .ok (.iconst 1, 1) := by decide +kernel
theorem dX12_bars_82 : decode cX12_bars 82 = .ok (.iadd, 1) := by decide +kernel
theorem dX12_bars_83 : decode cX12_bars 83 = .ok (.iaload, 1) := by decide +kernel
theorem dX12_bars_84 : decode cX12_bars 84 = .ok (.if_icmp .eq 30, 3) := by decide +kernel
theorem dX12_bars_87 : decode cX12_bars 87 = .ok (.aload_n 0, 1) := by decide +kernel
theorem dX12_bars_88 : decode cX12_bars 88 = .ok (.iload 4, 2) := by decide +kernel
theorem dX12_bars_90 : decode cX12_bars 90 = .ok (.putfield 65, 3) := by decide +kernel
theorem dX12_bars_93 : decode cX12_bars 93 = .ok (.aload_n 0, 1) := by decide +kernel
theorem dX12_bars_94 : decode cX12_bars 94 = .ok (.iload_n 1, 1) := by decide +kernel
theorem dX12_bars_95 : decode cX12_bars 95 = .ok (.invokevirtual 224, 3) := by decide +kernel
theorem dX12_bars_98 : decode cX12_bars 98 = .ok (.aload_n 0, 1) := by decide +kernel
theorem dX12_bars_99 : decode cX12_bars 99 = .ok (.iload_n 2, 1) := by decide +kernel
theorem dX12_bars_100 : decode cX12_bars 100 = .ok (.invokevirtual 221, 3) := by decide +kernel
theorem dX12_bars_103 : decode cX12_bars 103 = .ok (.iconst (-1), 1) := by decide +kernel
theorem dX12_bars_104 : decode cX12_bars 104 = .ok (.if_icmp .ne 8, 3) := by decide +kernel
theorem dX12_bars_107 : decode cX12_bars 107 = .ok (.iload 4, 2) := by decide +kernel
theorem dX12_bars_109 : decode cX12_bars 109 = .ok (.goto 4, 3) := by decide +kernel
theorem dX12_bars_112 : decode cX12_bars 112 = .ok (.iconst (-1), 1) := by decide +kernel
theorem dX12_bars_113 : decode cX12_bars 113 = .ok (.istore_n 3, 1) := by decide +kernel
theorem dX12_bars_114 : decode cX12_bars 114 = .ok (.iinc 4 1, 3) := by decide +kernel
theorem dX12_bars_117 : decode cX12_bars 117 = .ok (.goto (-66), 3) := by decide +kernel
theorem dX12_bars_120 : decode cX12_bars 120 = .ok (.aload_n 0, 1) := by decide +kernel
theorem dX12_bars_121 : decode cX12_bars 121 = .ok (.iconst (-1), 1) := by decide +kernel
theorem dX12_bars_122 : decode cX12_bars 122 = .ok (.putfield 65, 3) := by decide +kernel
theorem dX12_bars_125 : decode cX12_bars 125 = .ok (.iload_n 3, 1) := by decide +kernel
theorem dX12_bars_126 : decode cX12_bars 126 = .ok (.ireturn, 1) := by decide +kernel
theorem dX12_between_0 : decode cX12_between 0 = .ok (.aload_n 0, 1) := by decide +kernel
theorem dX12_between_1 : decode cX12_between 1 = .ok (.iload_n 1, 1) := by decide +kernel
theorem dX12_between_2 : decode cX12_between 2 = .ok (.iload_n 2, 1) := by decide +kernel
theorem dX12_between_3 : decode cX12_between 3 = .ok (.invokevirtual 157, 3) := by decide +kernel
theorem dX12_between_6 : decode cX12_between 6 = .ok (.ifCond .eq 12, 3) := by decide +kernel
theorem dX12_between_9 : decode cX12_between 9 = .ok (.aload_n 0, 1) := by decide +kernel
theorem dX12_between_10 : decode cX12_between 10 = .ok (.iload_n 1, 1) := by decide +kernel
theorem dX12_between_11 : decode cX12_between 11 = .ok (.iload_n 2, 1) := by decide +kernel
theorem dX12_between_12 : decode cX12_between 12 = .ok (.invokevirtual 160, 3) := by decide +kernel
theorem dX12_between_15 : decode cX12_between 15 = .ok (.goto 5, 3) := by decide +kernel
theorem dX12_between_18 : decode cX12_between 18 = .ok (.bipush (-101), 2) := by decide +kernel
theorem dX12_between_20 : decode cX12_between 20 = .ok (.ireturn, 1) := by decide +kernel
theorem dX12_betweenOf_0 : decode cX12_betweenOf 0 = .ok (.aload_n 0, 1) := by decide +kernel
theorem dX12_betweenOf_1 : decode cX12_betweenOf 1 = .ok (.iload_n 1, 1) := by decide +kernel
theorem dX12_betweenOf_2 : decode cX12_betweenOf 2 = .ok (.iload_n 2, 1) := by decide +kernel
theorem dX12_betweenOf_3 : decode cX12_betweenOf 3 = .ok (.invokevirtual 150, 3) := by decide +kernel
theorem dX12_betweenOf_6 : decode cX12_betweenOf 6 = .ok (.ifCond .eq 7, 3) := by decide +kernel
theorem dX12_betweenOf_9 : decode cX12_betweenOf 9 = .ok (.iconst 3, 1) := by decide +kernel
theorem dX12_betweenOf_10 : decode cX12_betweenOf 10 = .ok (.goto 17, 3) := by decide +kernel
theorem dX12_betweenOf_13 : decode cX12_betweenOf 13 = .ok (.aload_n 0, 1) := by decide +kernel
theorem dX12_betweenOf_14 : decode cX12_betweenOf 14 = .ok (.iload_n 1, 1) := by decide +kernel
theorem dX12_betweenOf_15 : decode cX12_betweenOf 15 = .ok (.iload_n 2, 1) := by decide +kernel
theorem dX12_betweenOf_16 : decode cX12_betweenOf 16 = .ok (.invokevirtual 154, 3) := by decide +kernel
theorem dX12_betweenOf_19 : decode cX12_betweenOf 19 = .ok (.ifCond .eq 7, 3) := by decide +kernel
theorem dX12_betweenOf_22 : decode cX12_betweenOf 22 = .ok (.iconst 2, 1) := by decide +kernel
theorem dX12_betweenOf_23 : decode cX12_betweenOf 23 = .ok (.goto 4, 3) := by decide +kernel
theorem dX12_betweenOf_26 : decode cX12_betweenOf 26 = .ok (.iconst 0, 1) := by decide +kernel
theorem dX12_betweenOf_27 : decode cX12_betweenOf 27 = .ok (.ireturn, 1) := by decide +kernel
theorem dX12_blank_0 : decode cX12_blank 0 = .ok (.aload_n 0, 1) := by decide +kernel
theorem dX12_blank_1 : decode cX12_blank 1 = .ok (.getfield 74, 3) := by decide +kernel
theorem dX12_blank_4 : decode cX12_blank 4 = .ok (.istore_n 1, 1) := by decide +kernel
theorem dX12_blank_5 : decode cX12_blank 5 = .ok (.aload_n 0, 1) := by decide +kernel
theorem dX12_blank_6 : decode cX12_blank 6 = .ok (.iconst 0, 1) := by decide +kernel
theorem dX12_blank_7 : decode cX12_blank 7 = .ok (.putfield 74, 3) := by decide +kernel
theorem dX12_blank_10 : decode cX12_blank 10 = .ok (.iload_n 1, 1) := by decide +kernel
theorem dX12_blank_11 : decode cX12_blank 11 = .ok (.ireturn, 1) := by decide +kernel
theorem dX12_copy_0 : decode cX12_copy 0 = .ok (.iconst 0, 1) := by decide +kernel
theorem dX12_copy_1 : decode cX12_copy 1 = .ok (.istore_n 2, 1) := by decide +kernel
theorem dX12_copy_2 : decode cX12_copy 2 = .ok (.iload_n 2, 1) := by decide +kernel
theorem dX12_copy_3 : decode cX12_copy 3 = .ok (.aload_n 0, 1) := by decide +kernel
theorem dX12_copy_4 : decode cX12_copy 4 = .ok (.arraylength, 1) := by decide +kernel
theorem dX12_copy_5 : decode cX12_copy 5 = .ok (.if_icmp .ge 15, 3) := by decide +kernel
theorem dX12_copy_8 : decode cX12_copy 8 = .ok (.aload_n 1, 1) := by decide +kernel
theorem dX12_copy_9 : decode cX12_copy 9 = .ok (.iload_n 2, 1) := by decide +kernel
theorem dX12_copy_10 : decode cX12_copy 10 = .ok (.aload_n 0, 1) := by decide +kernel
theorem dX12_copy_11 : decode cX12_copy 11 = .ok (.iload_n 2, 1) := by decide +kernel
theorem dX12_copy_12 : decode cX12_copy 12 = .ok (.iaload, 1) := by decide +kernel
theorem dX12_copy_13 : decode cX12_copy 13 = .ok (.iastore, 1) := by decide +kernel
theorem dX12_copy_14 : decode cX12_copy 14 = .ok (.iinc 2 1, 3) := by decide +kernel
theorem dX12_copy_17 : decode cX12_copy 17 = .ok (.goto (-15), 3) := by decide +kernel
theorem dX12_copy_20 : decode cX12_copy 20 = .ok (.return_, 1) := by decide +kernel
theorem dX12_count_0 : decode cX12_count 0 = .ok (.aload_n 0, 1) := by decide +kernel
theorem dX12_count_1 : decode cX12_count 1 = .ok (.iload_n 1, 1) := by decide +kernel
theorem dX12_count_2 : decode cX12_count 2 = .ok (.invokevirtual 289, 3) := by decide +kernel
theorem dX12_count_5 : decode cX12_count 5 = .ok (.ireturn, 1) := by decide +kernel
theorem dX12_countBy_0 : decode cX12_countBy 0 = .ok (.iconst 0, 1) := by decide +kernel
theorem dX12_countBy_1 : decode cX12_countBy 1 = .ok (.istore_n 3, 1) := by decide +kernel
theorem dX12_countBy_2 : decode cX12_countBy 2 = .ok (.iconst 0, 1) := by decide +kernel
theorem dX12_countBy_3 : decode cX12_countBy 3 = .ok (.istore 4, 2) := by decide +kernel
theorem dX12_countBy_5 : decode cX12_countBy 5 = .ok (.iload 4, 2) := by decide +kernel
theorem dX12_countBy_7 : decode cX12_countBy 7 = .ok (.aload_n 0, 1) := by decide +kernel
theorem dX12_countBy_8 : decode cX12_countBy 8 = .ok (.getfield 129, 3) := by decide +kernel
theorem dX12_countBy_11 : decode cX12_countBy 11 = .ok (.if_icmp .ge 143, 3) := by decide +kernel
theorem dX12_countBy_14 : decode cX12_countBy 14 = .ok (.aload_n 0, 1) := by decide +kernel
theorem dX12_countBy_15 : decode cX12_countBy 15 = .ok (.getfield 28, 3) := by decide +kernel
theorem dX12_countBy_18 : decode cX12_countBy 18 = .ok (.bipush 6, 2) := by decide +kernel
theorem dX12_countBy_20 : decode cX12_countBy 20 = .ok (.iload 4, 2) := by decide +kernel
theorem dX12_countBy_22 : decode cX12_countBy 22 = .ok (.imul, 1) := by decide +kernel
theorem dX12_countBy_23 : decode cX12_countBy 23 = .ok (.iaload, 1) := by decide +kernel
theorem dX12_countBy_24 : decode cX12_countBy 24 = .ok (.iload_n 1, 1) := by decide +kernel
theorem dX12_countBy_25 : decode cX12_countBy 25 = .ok (.if_icmp .ne 7, 3) := by decide +kernel
theorem dX12_countBy_28 : decode cX12_countBy 28 = .ok (.iconst 1, 1) := by decide +kernel
theorem dX12_countBy_29 : decode cX12_countBy 29 = .ok (.goto 4, 3) := by decide +kernel
theorem dX12_countBy_32 : decode cX12_countBy 32 = .ok (.iconst 0, 1) := by decide +kernel
theorem dX12_countBy_33 : decode cX12_countBy 33 = .ok (.istore 5, 2) := by decide +kernel
theorem dX12_countBy_35 : decode cX12_countBy 35 = .ok (.aload_n 0, 1) := by decide +kernel
theorem dX12_countBy_36 : decode cX12_countBy 36 = .ok (.getfield 28, 3) := by decide +kernel
theorem dX12_countBy_39 : decode cX12_countBy 39 = .ok (.bipush 6, 2) := by decide +kernel
theorem dX12_countBy_41 : decode cX12_countBy 41 = .ok (.iload 4, 2) := by decide +kernel
theorem dX12_countBy_43 : decode cX12_countBy 43 = .ok (.imul, 1) := by decide +kernel
theorem dX12_countBy_44 : decode cX12_countBy 44 = .ok (.iconst 1, 1) := by decide +kernel
theorem dX12_countBy_45 : decode cX12_countBy 45 = .ok (.iadd, 1) := by decide +kernel
theorem dX12_countBy_46 : decode cX12_countBy 46 = .ok (.iaload, 1) := by decide +kernel
theorem dX12_countBy_47 : decode cX12_countBy 47 = .ok (.iload_n 1, 1) := by decide +kernel
theorem dX12_countBy_48 : decode cX12_countBy 48 = .ok (.if_icmp .ne 7, 3) := by decide +kernel
theorem dX12_countBy_51 : decode cX12_countBy 51 = .ok (.iconst 1, 1) := by decide +kernel
theorem dX12_countBy_52 : decode cX12_countBy 52 = .ok (.goto 4, 3) := by decide +kernel
theorem dX12_countBy_55 : decode cX12_countBy 55 = .ok (.iconst 0, 1) := by decide +kernel
theorem dX12_countBy_56 : decode cX12_countBy 56 = .ok (.istore 6, 2) := by decide +kernel
theorem dX12_countBy_58 : decode cX12_countBy 58 = .ok (.iload_n 2, 1) := by decide +kernel
theorem dX12_countBy_59 : decode cX12_countBy 59 = .ok (.iconst 1, 1) := by decide +kernel
theorem dX12_countBy_60 : decode cX12_countBy 60 = .ok (.if_icmp .ne 8, 3) := by decide +kernel
theorem dX12_countBy_63 : decode cX12_countBy 63 = .ok (.iload 5, 2) := by decide +kernel
theorem dX12_countBy_65 : decode cX12_countBy 65 = .ok (.goto 68, 3) := by decide +kernel
theorem dX12_countBy_68 : decode cX12_countBy 68 = .ok (.iload_n 2, 1) := by decide +kernel
theorem dX12_countBy_69 : decode cX12_countBy 69 = .ok (.iconst 2, 1) := by decide +kernel
theorem dX12_countBy_70 : decode cX12_countBy 70 = .ok (.if_icmp .ne 8, 3) := by decide +kernel
theorem dX12_countBy_73 : decode cX12_countBy 73 = .ok (.iload 6, 2) := by decide +kernel
theorem dX12_countBy_75 : decode cX12_countBy 75 = .ok (.goto 58, 3) := by decide +kernel
theorem dX12_countBy_78 : decode cX12_countBy 78 = .ok (.iload_n 2, 1) := by decide +kernel
theorem dX12_countBy_79 : decode cX12_countBy 79 = .ok (.iconst 3, 1) := by decide +kernel
theorem dX12_countBy_80 : decode cX12_countBy 80 = .ok (.if_icmp .ne 25, 3) := by decide +kernel
theorem dX12_countBy_83 : decode cX12_countBy 83 = .ok (.iload 6, 2) := by decide +kernel
theorem dX12_countBy_85 : decode cX12_countBy 85 = .ok (.ifCond .eq 16, 3) := by decide +kernel
theorem dX12_countBy_88 : decode cX12_countBy 88 = .ok (.aload_n 0, 1) := by decide +kernel
theorem dX12_countBy_89 : decode cX12_countBy 89 = .ok (.iload 4, 2) := by decide +kernel
theorem dX12_countBy_91 : decode cX12_countBy 91 = .ok (.invokevirtual 174, 3) := by decide +kernel
theorem dX12_countBy_94 : decode cX12_countBy 94 = .ok (.ifCond .eq 7, 3) := by decide +kernel
theorem dX12_countBy_97 : decode cX12_countBy 97 = .ok (.iconst 1, 1) := by decide +kernel
theorem dX12_countBy_98 : decode cX12_countBy 98 = .ok (.goto 35, 3) := by decide +kernel
theorem dX12_countBy_101 : decode cX12_countBy 101 = .ok (.iconst 0, 1) := by decide +kernel
theorem dX12_countBy_102 : decode cX12_countBy 102 = .ok (.goto 31, 3) := by decide +kernel
theorem dX12_countBy_105 : decode cX12_countBy 105 = .ok (.iload 6, 2) := by decide +kernel
theorem dX12_countBy_107 : decode cX12_countBy 107 = .ok (.ifCond .eq 25, 3) := by decide +kernel
theorem dX12_countBy_110 : decode cX12_countBy 110 = .ok (.aload_n 0, 1) := by decide +kernel
theorem dX12_countBy_111 : decode cX12_countBy 111 = .ok (.iload 4, 2) := by decide +kernel
theorem dX12_countBy_113 : decode cX12_countBy 113 = .ok (.invokevirtual 174, 3) := by decide +kernel
theorem dX12_countBy_116 : decode cX12_countBy 116 = .ok (.ifCond .eq 16, 3) := by decide +kernel
theorem dX12_countBy_119 : decode cX12_countBy 119 = .ok (.aload_n 0, 1) := by decide +kernel
theorem dX12_countBy_120 : decode cX12_countBy 120 = .ok (.iload 4, 2) := by decide +kernel
theorem dX12_countBy_122 : decode cX12_countBy 122 = .ok (.invokevirtual 177, 3) := by decide +kernel
theorem dX12_countBy_125 : decode cX12_countBy 125 = .ok (.ifCond .eq 7, 3) := by decide +kernel
theorem dX12_countBy_128 : decode cX12_countBy 128 = .ok (.iconst 1, 1) := by decide +kernel
theorem dX12_countBy_129 : decode cX12_countBy 129 = .ok (.goto 4, 3) := by decide +kernel
theorem dX12_countBy_132 : decode cX12_countBy 132 = .ok (.iconst 0, 1) := by decide +kernel
theorem dX12_countBy_133 : decode cX12_countBy 133 = .ok (.istore 7, 2) := by decide +kernel
theorem dX12_countBy_135 : decode cX12_countBy 135 = .ok (.iload_n 3, 1) := by decide +kernel
theorem dX12_countBy_136 : decode cX12_countBy 136 = .ok (.iload 7, 2) := by decide +kernel
theorem dX12_countBy_138 : decode cX12_countBy 138 = .ok (.ifCond .eq 7, 3) := by decide +kernel
theorem dX12_countBy_141 : decode cX12_countBy 141 = .ok (.iconst 1, 1) := by decide +kernel
theorem dX12_countBy_142 : decode cX12_countBy 142 = .ok (.goto 4, 3) := by decide +kernel
theorem dX12_countBy_145 : decode cX12_countBy 145 = .ok (.iconst 0, 1) := by decide +kernel
theorem dX12_countBy_146 : decode cX12_countBy 146 = .ok (.iadd, 1) := by decide +kernel
theorem dX12_countBy_147 : decode cX12_countBy 147 = .ok (.istore_n 3, 1) := by decide +kernel
theorem dX12_countBy_148 : decode cX12_countBy 148 = .ok (.iinc 4 1, 3) := by decide +kernel
theorem dX12_countBy_151 : decode cX12_countBy 151 = .ok (.goto (-146), 3) := by decide +kernel
theorem dX12_countBy_154 : decode cX12_countBy 154 = .ok (.iload_n 3, 1) := by decide +kernel
theorem dX12_countBy_155 : decode cX12_countBy 155 = .ok (.ireturn, 1) := by decide +kernel
theorem dX12_countOf_0 : decode cX12_countOf 0 = .ok (.iload_n 1, 1) := by decide +kernel
theorem dX12_countOf_1 : decode cX12_countOf 1 = .ok (.tableswitch 114 0 10 #[59, 64, 69, 74, 79, 84, 89, 94, 99, 104, 109], 59) := by decide +kernel
theorem dX12_countOf_60 : decode cX12_countOf 60 = .ok (.aload_n 0, 1) := by decide +kernel
theorem dX12_countOf_61 : decode cX12_countOf 61 = .ok (.getfield 120, 3) := by decide +kernel
theorem dX12_countOf_64 : decode cX12_countOf 64 = .ok (.ireturn, 1) := by decide +kernel
theorem dX12_countOf_65 : decode cX12_countOf 65 = .ok (.aload_n 0, 1) := by decide +kernel
theorem dX12_countOf_66 : decode cX12_countOf 66 = .ok (.getfield 117, 3) := by decide +kernel
theorem dX12_countOf_69 : decode cX12_countOf 69 = .ok (.ireturn, 1) := by decide +kernel
theorem dX12_countOf_70 : decode cX12_countOf 70 = .ok (.aload_n 0, 1) := by decide +kernel
theorem dX12_countOf_71 : decode cX12_countOf 71 = .ok (.getfield 114, 3) := by decide +kernel
theorem dX12_countOf_74 : decode cX12_countOf 74 = .ok (.ireturn, 1) := by decide +kernel
