theorem dX12_countOf_75 : decode cX12_countOf 75 = .ok (.aload_n 0, 1) := by decide +kernel
theorem dX12_countOf_76 : decode cX12_countOf 76 = .ok (.getfield 126, 3) := by decide +kernel
theorem dX12_countOf_79 : decode cX12_countOf 79 = .ok (.ireturn, 1) := by decide +kernel
theorem dX12_countOf_80 : decode cX12_countOf 80 = .ok (.aload_n 0, 1) := by decide +kernel
theorem dX12_countOf_81 : decode cX12_countOf 81 = .ok (.getfield 129, 3) := by decide +kernel
theorem dX12_countOf_84 : decode cX12_countOf 84 = .ok (.ireturn, 1) := by decide +kernel
theorem dX12_countOf_85 : decode cX12_countOf 85 = .ok (.aload_n 0, 1) := by decide +kernel
theorem dX12_countOf_86 : decode cX12_countOf 86 = .ok (.invokevirtual 271, 3) := by decide +kernel
theorem dX12_countOf_89 : decode cX12_countOf 89 = .ok (.ireturn, 1) := by decide +kernel
theorem dX12_countOf_90 : decode cX12_countOf 90 = .ok (.aload_n 0, 1) := by decide +kernel
theorem dX12_countOf_91 : decode cX12_countOf 91 = .ok (.getfield 123, 3) := by decide +kernel
theorem dX12_countOf_94 : decode cX12_countOf 94 = .ok (.ireturn, 1) := by decide +kernel
theorem dX12_countOf_95 : decode cX12_countOf 95 = .ok (.aload_n 0, 1) := by decide +kernel
theorem dX12_countOf_96 : decode cX12_countOf 96 = .ok (.invokevirtual 274, 3) := by decide +kernel
theorem dX12_countOf_99 : decode cX12_countOf 99 = .ok (.ireturn, 1) := by decide +kernel
theorem dX12_countOf_100 : decode cX12_countOf 100 = .ok (.aload_n 0, 1) := by decide +kernel
theorem dX12_countOf_101 : decode cX12_countOf 101 = .ok (.getfield 132, 3) := by decide +kernel
theorem dX12_countOf_104 : decode cX12_countOf 104 = .ok (.ireturn, 1) := by decide +kernel
theorem dX12_countOf_105 : decode cX12_countOf 105 = .ok (.aload_n 0, 1) := by decide +kernel
theorem dX12_countOf_106 : decode cX12_countOf 106 = .ok (.getfield 74, 3) := by decide +kernel
theorem dX12_countOf_109 : decode cX12_countOf 109 = .ok (.ireturn, 1) := by decide +kernel
theorem dX12_countOf_110 : decode cX12_countOf 110 = .ok (.aload_n 0, 1) := by decide +kernel
theorem dX12_countOf_111 : decode cX12_countOf 111 = .ok (.getfield 135, 3) := by decide +kernel
theorem dX12_countOf_114 : decode cX12_countOf 114 = .ok (.ireturn, 1) := by decide +kernel
theorem dX12_countOf_115 : decode cX12_countOf 115 = .ok (.bipush (-102), 2) := by decide +kernel
theorem dX12_countOf_117 : decode cX12_countOf 117 = .ok (.ireturn, 1) := by decide +kernel
theorem dX12_deed_0 : decode cX12_deed 0 = .ok (.aload_n 0, 1) := by decide +kernel
theorem dX12_deed_1 : decode cX12_deed 1 = .ok (.iload_n 1, 1) := by decide +kernel
theorem dX12_deed_2 : decode cX12_deed 2 = .ok (.invokevirtual 193, 3) := by decide +kernel
theorem dX12_deed_5 : decode cX12_deed 5 = .ok (.ifCond .eq 12, 3) := by decide +kernel
theorem dX12_deed_8 : decode cX12_deed 8 = .ok (.aload_n 0, 1) := by decide +kernel
theorem dX12_deed_9 : decode cX12_deed 9 = .ok (.iload_n 1, 1) := by decide +kernel
theorem dX12_deed_10 : decode cX12_deed 10 = .ok (.iload_n 2, 1) := by decide +kernel
theorem dX12_deed_11 : decode cX12_deed 11 = .ok (.invokevirtual 218, 3) := by decide +kernel
theorem dX12_deed_14 : decode cX12_deed 14 = .ok (.goto 5, 3) := by decide +kernel
theorem dX12_deed_17 : decode cX12_deed 17 = .ok (.bipush (-101), 2) := by decide +kernel
theorem dX12_deed_19 : decode cX12_deed 19 = .ok (.ireturn, 1) := by decide +kernel
theorem dX12_digest_0 : decode cX12_digest 0 = .ok (.aload_n 0, 1) := by decide +kernel
theorem dX12_digest_1 : decode cX12_digest 1 = .ok (.ldc2_w 302, 3) := by decide +kernel
theorem dX12_digest_4 : decode cX12_digest 4 = .ok (.putfield 294, 3) := by decide +kernel
theorem dX12_digest_7 : decode cX12_digest 7 = .ok (.iconst 0, 1) := by decide +kernel
theorem dX12_digest_8 : decode cX12_digest 8 = .ok (.istore_n 1, 1) := by decide +kernel
theorem dX12_digest_9 : decode cX12_digest 9 = .ok (.iload_n 1, 1) := by decide +kernel
theorem dX12_digest_10 : decode cX12_digest 10 = .ok (.aload_n 0, 1) := by decide +kernel
theorem dX12_digest_11 : decode cX12_digest 11 = .ok (.getfield 126, 3) := by decide +kernel
theorem dX12_digest_14 : decode cX12_digest 14 = .ok (.if_icmp .ge 14, 3) := by decide +kernel
theorem dX12_digest_17 : decode cX12_digest 17 = .ok (.aload_n 0, 1) := by decide +kernel
theorem dX12_digest_18 : decode cX12_digest 18 = .ok (.iload_n 1, 1) := by decide +kernel
theorem dX12_digest_19 : decode cX12_digest 19 = .ok (.invokevirtual 304, 3) := by decide +kernel
theorem dX12_digest_22 : decode cX12_digest 22 = .ok (.iinc 1 1, 3) := by decide +kernel
theorem dX12_digest_25 : decode cX12_digest 25 = .ok (.goto (-16), 3) := by decide +kernel
theorem dX12_digest_28 : decode cX12_digest 28 = .ok (.iconst 0, 1) := by decide +kernel
theorem dX12_digest_29 : decode cX12_digest 29 = .ok (.istore_n 1, 1) := by decide +kernel
theorem dX12_digest_30 : decode cX12_digest 30 = .ok (.iload_n 1, 1) := by decide +kernel
theorem dX12_digest_31 : decode cX12_digest 31 = .ok (.aload_n 0, 1) := by decide +kernel
theorem dX12_digest_32 : decode cX12_digest 32 = .ok (.getfield 129, 3) := by decide +kernel
theorem dX12_digest_35 : decode cX12_digest 35 = .ok (.if_icmp .ge 52, 3) := by decide +kernel
theorem dX12_digest_38 : decode cX12_digest 38 = .ok (.iconst 0, 1) := by decide +kernel
theorem dX12_digest_39 : decode cX12_digest 39 = .ok (.istore_n 2, 1) := by decide +kernel
theorem dX12_digest_40 : decode cX12_digest 40 = .ok (.iload_n 2, 1) := by decide +kernel
theorem dX12_digest_41 : decode cX12_digest 41 = .ok (.bipush 8, 2) := by decide +kernel
theorem dX12_digest_43 : decode cX12_digest 43 = .ok (.if_icmp .ge 20, 3) := by decide +kernel
theorem dX12_digest_46 : decode cX12_digest 46 = .ok (.aload_n 0, 1) := by decide +kernel
theorem dX12_digest_47 : decode cX12_digest 47 = .ok (.aload_n 0, 1) := by decide +kernel
theorem dX12_digest_48 : decode cX12_digest 48 = .ok (.iload_n 1, 1) := by decide +kernel
theorem dX12_digest_49 : decode cX12_digest 49 = .ok (.iload_n 2, 1) := by decide +kernel
theorem dX12_digest_50 : decode cX12_digest 50 = .ok (.invokevirtual 218, 3) := by decide +kernel
theorem dX12_digest_53 : decode cX12_digest 53 = .ok (.i2l, 1) := by decide +kernel
theorem dX12_digest_54 : decode cX12_digest 54 = .ok (.invokevirtual 298, 3) := by decide +kernel
theorem dX12_digest_57 : decode cX12_digest 57 = .ok (.iinc 2 1, 3) := by decide +kernel
theorem dX12_digest_60 : decode cX12_digest 60 = .ok (.goto (-20), 3) := by decide +kernel
theorem dX12_digest_63 : decode cX12_digest 63 = .ok (.aload_n 0, 1) := by decide +kernel
theorem dX12_digest_64 : decode cX12_digest 64 = .ok (.iload_n 1, 1) := by decide +kernel
theorem dX12_digest_65 : decode cX12_digest 65 = .ok (.invokevirtual 174, 3) := by decide +kernel
theorem dX12_digest_68 : decode cX12_digest 68 = .ok (.ifCond .eq 13, 3) := by decide +kernel
theorem dX12_digest_71 : decode cX12_digest 71 = .ok (.aload_n 0, 1) := by decide +kernel
theorem dX12_digest_72 : decode cX12_digest 72 = .ok (.aload_n 0, 1) := by decide +kernel
theorem dX12_digest_73 : decode cX12_digest 73 = .ok (.iload_n 1, 1) := by decide +kernel
theorem dX12_digest_74 : decode cX12_digest 74 = .ok (.invokevirtual 231, 3) := by decide +kernel
theorem dX12_digest_77 : decode cX12_digest 77 = .ok (.i2l, 1) := by decide +kernel
theorem dX12_digest_78 : decode cX12_digest 78 = .ok (.invokevirtual 298, 3) := by decide +kernel
theorem dX12_digest_81 : decode cX12_digest 81 = .ok (.iinc 1 1, 3) := by decide +kernel
theorem dX12_digest_84 : decode cX12_digest 84 = .ok (.goto (-54), 3) := by decide +kernel
theorem dX12_digest_87 : decode cX12_digest 87 = .ok (.aload_n 0, 1) := by decide +kernel
theorem dX12_digest_88 : decode cX12_digest 88 = .ok (.aload_n 0, 1) := by decide +kernel
theorem dX12_digest_89 : decode cX12_digest 89 = .ok (.invokevirtual 244, 3) := by decide +kernel
theorem dX12_digest_92 : decode cX12_digest 92 = .ok (.i2l, 1) := by decide +kernel
theorem dX12_digest_93 : decode cX12_digest 93 = .ok (.invokevirtual 298, 3) := by decide +kernel
theorem dX12_digest_96 : decode cX12_digest 96 = .ok (.iconst 0, 1) := by decide +kernel
theorem dX12_digest_97 : decode cX12_digest 97 = .ok (.istore_n 1, 1) := by decide +kernel
theorem dX12_digest_98 : decode cX12_digest 98 = .ok (.iload_n 1, 1) := by decide +kernel
theorem dX12_digest_99 : decode cX12_digest 99 = .ok (.aload_n 0, 1) := by decide +kernel
theorem dX12_digest_100 : decode cX12_digest 100 = .ok (.getfield 74, 3) := by decide +kernel
theorem dX12_digest_103 : decode cX12_digest 103 = .ok (.if_icmp .ge 20, 3) := by decide +kernel
theorem dX12_digest_106 : decode cX12_digest 106 = .ok (.aload_n 0, 1) := by decide +kernel
theorem dX12_digest_107 : decode cX12_digest 107 = .ok (.aload_n 0, 1) := by decide +kernel
theorem dX12_digest_108 : decode cX12_digest 108 = .ok (.getfield 7, 3) := by decide +kernel
theorem dX12_digest_111 : decode cX12_digest 111 = .ok (.iload_n 1, 1) := by decide +kernel
theorem dX12_digest_112 : decode cX12_digest 112 = .ok (.iaload, 1) := by decide +kernel
theorem dX12_digest_113 : decode cX12_digest 113 = .ok (.i2l, 1) := by decide +kernel
theorem dX12_digest_114 : decode cX12_digest 114 = .ok (.invokevirtual 298, 3) := by decide +kernel
theorem dX12_digest_117 : decode cX12_digest 117 = .ok (.iinc 1 1, 3) := by decide +kernel
theorem dX12_digest_120 : decode cX12_digest 120 = .ok (.goto (-22), 3) := by decide +kernel
theorem dX12_digest_123 : decode cX12_digest 123 = .ok (.iconst 0, 1) := by decide +kernel
theorem dX12_digest_124 : decode cX12_digest 124 = .ok (.istore_n 1, 1) := by decide +kernel
theorem dX12_digest_125 : decode cX12_digest 125 = .ok (.iload_n 1, 1) := by decide +kernel
theorem dX12_digest_126 : decode cX12_digest 126 = .ok (.bipush 11, 2) := by decide +kernel
theorem dX12_digest_128 : decode cX12_digest 128 = .ok (.if_icmp .ge 19, 3) := by decide +kernel
theorem dX12_digest_131 : decode cX12_digest 131 = .ok (.aload_n 0, 1) := by decide +kernel
theorem dX12_digest_132 : decode cX12_digest 132 = .ok (.aload_n 0, 1) := by decide +kernel
theorem dX12_digest_133 : decode cX12_digest 133 = .ok (.iload_n 1, 1) := by decide +kernel
theorem dX12_digest_134 : decode cX12_digest 134 = .ok (.invokevirtual 289, 3) := by decide +kernel
theorem dX12_digest_137 : decode cX12_digest 137 = .ok (.i2l, 1) := by decide +kernel
theorem dX12_digest_138 : decode cX12_digest 138 = .ok (.invokevirtual 298, 3) := by decide +kernel
theorem dX12_digest_141 : decode cX12_digest 141 = .ok (.iinc 1 1, 3) := by decide +kernel
theorem dX12_digest_144 : decode cX12_digest 144 = .ok (.goto (-19), 3) := by decide +kernel
theorem dX12_digest_147 : decode cX12_digest 147 = .ok (.aload_n 0, 1) := by decide +kernel
theorem dX12_digest_148 : decode cX12_digest 148 = .ok (.getfield 294, 3) := by decide +kernel
theorem dX12_digest_151 : decode cX12_digest 151 = .ok (.lreturn, 1) := by decide +kernel
theorem dX12_draw_0 : decode cX12_draw 0 = .ok (.aload_n 0, 1) := by decide +kernel
theorem dX12_draw_1 : decode cX12_draw 1 = .ok (.ldc2_w 247, 3) := by decide +kernel
theorem dX12_draw_4 : decode cX12_draw 4 = .ok (.aload_n 0, 1) := by decide +kernel
theorem dX12_draw_5 : decode cX12_draw 5 = .ok (.getfield 249, 3) := by decide +kernel
theorem dX12_draw_8 : decode cX12_draw 8 = .ok (.i2l, 1) := by decide +kernel
theorem dX12_draw_9 : decode cX12_draw 9 = .ok (.lmul, 1) := by decide +kernel
theorem dX12_draw_10 : decode cX12_draw 10 = .ok (.ldc2_w 252, 3) := by decide +kernel
theorem dX12_draw_13 : decode cX12_draw 13 = .ok (.ladd, 1) := by decide +kernel
theorem dX12_draw_14 : decode cX12_draw 14 = .ok (.ldc2_w 254, 3) := by decide +kernel
theorem dX12_draw_17 : decode cX12_draw 17 = .ok (.land, 1) := by decide +kernel
theorem dX12_draw_18 : decode cX12_draw 18 = .ok (.l2i, 1) := by decide +kernel
theorem dX12_draw_19 : decode cX12_draw 19 = .ok (.putfield 249, 3) := by decide +kernel
theorem dX12_draw_22 : decode cX12_draw 22 = .ok (.aload_n 0, 1) := by decide +kernel
theorem dX12_draw_23 : decode cX12_draw 23 = .ok (.getfield 249, 3) := by decide +kernel
theorem dX12_draw_26 : decode cX12_draw 26 = .ok (.ldc_w 256, 3) := by decide +kernel
theorem dX12_draw_29 : decode cX12_draw 29 = .ok (.idiv, 1) := by decide +kernel
theorem dX12_draw_30 : decode cX12_draw 30 = .ok (.iload_n 1, 1) := by decide +kernel
theorem dX12_draw_31 : decode cX12_draw 31 = .ok (.irem, 1) := by decide +kernel
theorem dX12_draw_32 : decode cX12_draw 32 = .ok (.ireturn, 1) := by decide +kernel
theorem dX12_fault_0 : decode cX12_fault 0 = .ok (.aload_n 0, 1) := by decide +kernel
theorem dX12_fault_1 : decode cX12_fault 1 = .ok (.invokevirtual 110, 3) := by decide +kernel
theorem dX12_fault_4 : decode cX12_fault 4 = .ok (.ireturn, 1) := by decide +kernel
theorem dX12_faultOf_0 : decode cX12_faultOf 0 = .ok (.iconst 0, 1) := by decide +kernel
theorem dX12_faultOf_1 : decode cX12_faultOf 1 = .ok (.istore_n 1, 1) := by decide +kernel
theorem dX12_faultOf_2 : decode cX12_faultOf 2 = .ok (.iload_n 1, 1) := by decide +kernel
theorem dX12_faultOf_3 : decode cX12_faultOf 3 = .ok (.bipush 6, 2) := by decide +kernel
theorem dX12_faultOf_5 : decode cX12_faultOf 5 = .ok (.if_icmp .ge 23, 3) := by decide +kernel
theorem dX12_faultOf_8 : decode cX12_faultOf 8 = .ok (.aload_n 0, 1) := by decide +kernel
theorem dX12_faultOf_9 : decode cX12_faultOf 9 = .ok (.getfield 13, 3) := by decide +kernel
theorem dX12_faultOf_12 : decode cX12_faultOf 12 = .ok (.iload_n 1, 1) := by decide +kernel
theorem dX12_faultOf_13 : decode cX12_faultOf 13 = .ok (.iconst 0, 1) := by decide +kernel
theorem dX12_faultOf_14 : decode cX12_faultOf 14 = .ok (.iastore, 1) := by decide +kernel
theorem dX12_faultOf_15 : decode cX12_faultOf 15 = .ok (.aload_n 0, 1) := by decide +kernel
theorem dX12_faultOf_16 : decode cX12_faultOf 16 = .ok (.getfield 16, 3) := by decide +kernel
theorem dX12_faultOf_19 : decode cX12_faultOf 19 = .ok (.iload_n 1, 1) := by decide +kernel
theorem dX12_faultOf_20 : decode cX12_faultOf 20 = .ok (.iconst 0, 1) := by decide +kernel
theorem dX12_faultOf_21 : decode cX12_faultOf 21 = .ok (.iastore, 1) := by decide +kernel
theorem dX12_faultOf_22 : decode cX12_faultOf 22 = .ok (.iinc 1 1, 3) := by decide +kernel
theorem dX12_faultOf_25 : decode cX12_faultOf 25 = .ok (.goto (-23), 3) := by decide +kernel
theorem dX12_faultOf_28 : decode cX12_faultOf 28 = .ok (.aload_n 0, 1) := by decide +kernel
theorem dX12_faultOf_29 : decode cX12_faultOf 29 = .ok (.iconst 0, 1) := by decide +kernel
theorem dX12_faultOf_30 : decode cX12_faultOf 30 = .ok (.putfield 86, 3) := by decide +kernel
theorem dX12_faultOf_33 : decode cX12_faultOf 33 = .ok (.aload_n 0, 1) := by decide +kernel
theorem dX12_faultOf_34 : decode cX12_faultOf 34 = .ok (.iconst 0, 1) := by decide +kernel
theorem dX12_faultOf_35 : decode cX12_faultOf 35 = .ok (.putfield 89, 3) := by decide +kernel
theorem dX12_faultOf_38 : decode cX12_faultOf 38 = .ok (.aload_n 0, 1) := by decide +kernel
theorem dX12_faultOf_39 : decode cX12_faultOf 39 = .ok (.iconst 0, 1) := by decide +kernel
theorem dX12_faultOf_40 : decode cX12_faultOf 40 = .ok (.putfield 92, 3) := by decide +kernel
theorem dX12_faultOf_43 : decode cX12_faultOf 43 = .ok (.iconst 0, 1) := by decide +kernel
theorem dX12_faultOf_44 : decode cX12_faultOf 44 = .ok (.istore_n 1, 1) := by decide +kernel
theorem dX12_faultOf_45 : decode cX12_faultOf 45 = .ok (.iload_n 1, 1) := by decide +kernel
theorem dX12_faultOf_46 : decode cX12_faultOf 46 = .ok (.aload_n 0, 1) := by decide +kernel
theorem dX12_faultOf_47 : decode cX12_faultOf 47 = .ok (.getfield 74, 3) := by decide +kernel
theorem dX12_faultOf_50 : decode cX12_faultOf 50 = .ok (.if_icmp .ge 22, 3) := by decide +kernel
theorem dX12_faultOf_53 : decode cX12_faultOf 53 = .ok (.aload_n 0, 1) := by decide +kernel
theorem dX12_faultOf_54 : decode cX12_faultOf 54 = .ok (.aload_n 0, 1) := by decide +kernel
theorem dX12_faultOf_55 : decode cX12_faultOf 55 = .ok (.getfield 7, 3) := by decide +kernel
theorem dX12_faultOf_58 : decode cX12_faultOf 58 = .ok (.iload_n 1, 1) := by decide +kernel
theorem dX12_faultOf_59 : decode cX12_faultOf 59 = .ok (.iaload, 1) := by decide +kernel
theorem dX12_faultOf_60 : decode cX12_faultOf 60 = .ok (.invokevirtual 107, 3) := by decide +kernel
theorem dX12_faultOf_63 : decode cX12_faultOf 63 = .ok (.ifCond .eq 9, 3) := by decide +kernel
theorem dX12_faultOf_66 : decode cX12_faultOf 66 = .ok (.iinc 1 1, 3) := by decide +kernel
theorem dX12_faultOf_69 : decode cX12_faultOf 69 = .ok (.goto (-24), 3) := by decide +kernel
theorem dX12_faultOf_72 : decode cX12_faultOf 72 = .ok (.iload_n 1, 1) := by decide +kernel
theorem dX12_faultOf_73 : decode cX12_faultOf 73 = .ok (.ireturn, 1) := by decide +kernel
theorem dX12_favour_0 : decode cX12_favour 0 = .ok (.aload_n 0, 1) := by decide +kernel
theorem dX12_favour_1 : decode cX12_favour 1 = .ok (.iload_n 1, 1) := by decide +kernel
theorem dX12_favour_2 : decode cX12_favour 2 = .ok (.iload_n 2, 1) := by decide +kernel
theorem dX12_favour_3 : decode cX12_favour 3 = .ok (.iload 4, 2) := by decide +kernel
theorem dX12_favour_5 : decode cX12_favour 5 = .ok (.invokevirtual 196, 3) := by decide +kernel
theorem dX12_favour_8 : decode cX12_favour 8 = .ok (.ifCond .ne 6, 3) := by decide +kernel
theorem dX12_favour_11 : decode cX12_favour 11 = .ok (.bipush (-101), 2) := by decide +kernel
theorem dX12_favour_13 : decode cX12_favour 13 = .ok (.ireturn, 1) := by decide +kernel
theorem dX12_favour_14 : decode cX12_favour 14 = .ok (.iload_n 3, 1) := by decide +kernel
theorem dX12_favour_15 : decode cX12_favour 15 = .ok (.i2l, 1) := by decide +kernel
theorem dX12_favour_16 : decode cX12_favour 16 = .ok (.lconst 1, 1) := by decide +kernel
theorem dX12_favour_17 : decode cX12_favour 17 = .ok (.ldc2_w 199, 3) := by decide +kernel
theorem dX12_favour_20 : decode cX12_favour 20 = .ok (.invokestatic 70, 3) := by decide +kernel
theorem dX12_favour_23 : decode cX12_favour 23 = .ok (.ifCond .ne 6, 3) := by decide +kernel
theorem dX12_favour_26 : decode cX12_favour 26 = .ok (.bipush (-102), 2) := by decide +kernel
theorem dX12_favour_28 : decode cX12_favour 28 = .ok (.ireturn, 1) := by decide +kernel
theorem dX12_favour_29 : decode cX12_favour 29 = .ok (.aload_n 0, 1) := by decide +kernel
theorem dX12_favour_30 : decode cX12_favour 30 = .ok (.iload_n 1, 1) := by decide +kernel
theorem dX12_favour_31 : decode cX12_favour 31 = .ok (.iload_n 2, 1) := by decide +kernel
theorem dX12_favour_32 : decode cX12_favour 32 = .ok (.iload_n 3, 1) := by decide +kernel
theorem dX12_favour_33 : decode cX12_favour 33 = .ok (.iload 4, 2) := by decide +kernel
theorem dX12_favour_35 : decode cX12_favour 35 = .ok (.invokevirtual 201, 3) := by decide +kernel
theorem dX12_favour_38 : decode cX12_favour 38 = .ok (.ifCond .ne 6, 3) := by decide +kernel
theorem dX12_favour_41 : decode cX12_favour 41 = .ok (.bipush (-103), 2) := by decide +kernel
theorem dX12_favour_43 : decode cX12_favour 43 = .ok (.ireturn, 1) := by decide +kernel
theorem dX12_favour_44 : decode cX12_favour 44 = .ok (.aload_n 0, 1) := by decide +kernel
theorem dX12_favour_45 : decode cX12_favour 45 = .ok (.getfield 129, 3) := by decide +kernel
theorem dX12_favour_48 : decode cX12_favour 48 = .ok (.bipush 12, 2) := by decide +kernel
theorem dX12_favour_50 : decode cX12_favour 50 = .ok (.if_icmp .ne 6, 3) := by decide +kernel
theorem dX12_favour_53 : decode cX12_favour 53 = .ok (.bipush (-104), 2) := by decide +kernel
theorem dX12_favour_55 : decode cX12_favour 55 = .ok (.ireturn, 1) := by decide +kernel
theorem dX12_favour_56 : decode cX12_favour 56 = .ok (.aload_n 0, 1) := by decide +kernel
theorem dX12_favour_57 : decode cX12_favour 57 = .ok (.iload_n 1, 1) := by decide +kernel
theorem dX12_favour_58 : decode cX12_favour 58 = .ok (.iload_n 2, 1) := by decide +kernel
theorem dX12_favour_59 : decode cX12_favour 59 = .ok (.iload_n 3, 1) := by decide +kernel
theorem dX12_favour_60 : decode cX12_favour 60 = .ok (.iload 4, 2) := by decide +kernel
theorem dX12_favour_62 : decode cX12_favour 62 = .ok (.invokevirtual 205, 3) := by decide +kernel
theorem dX12_favour_65 : decode cX12_favour 65 = .ok (.aload_n 0, 1) := by decide +kernel
theorem dX12_favour_66 : decode cX12_favour 66 = .ok (.getfield 129, 3) := by decide +kernel
theorem dX12_favour_69 : decode cX12_favour 69 = .ok (.iconst 1, 1) := by decide +kernel
theorem dX12_favour_70 : decode cX12_favour 70 = .ok (.isub, 1) := by decide +kernel
theorem dX12_favour_71 : decode cX12_favour 71 = .ok (.ireturn, 1) := by decide +kernel
theorem dX12_fewest_0 : decode cX12_fewest 0 = .ok (.iconst (-1), 1) := by decide +kernel
theorem dX12_fewest_1 : decode cX12_fewest 1 = .ok (.istore_n 2, 1) := by decide +kernel
theorem dX12_fewest_2 : decode cX12_fewest 2 = .ok (.iconst 0, 1) := by decide +kernel
theorem dX12_fewest_3 : decode cX12_fewest 3 = .ok (.istore_n 3, 1) := by decide +kernel
theorem dX12_fewest_4 : decode cX12_fewest 4 = .ok (.iload_n 3, 1) := by decide +kernel
theorem dX12_fewest_5 : decode cX12_fewest 5 = .ok (.bipush 6, 2) := by decide +kernel
theorem dX12_fewest_7 : decode cX12_fewest 7 = .ok (.if_icmp .ge 46, 3) := by decide +kernel
theorem dX12_fewest_10 : decode cX12_fewest 10 = .ok (.aload_n 0, 1) := by decide +kernel
theorem dX12_fewest_11 : decode cX12_fewest 11 = .ok (.getfield 31, 3) := by decide +kernel
theorem dX12_fewest_14 : decode cX12_fewest 14 = .ok (.bipush 6, 2) := by decide +kernel
theorem dX12_fewest_16 : decode cX12_fewest 16 = .ok (.iload_n 3, 1) := by decide +kernel
theorem dX12_fewest_17 : decode cX12_fewest 17 = .ok (.imul, 1) := by decide +kernel
theorem dX12_fewest_18 : decode cX12_fewest 18 = .ok (.iload_n 1, 1) := by decide +kernel
theorem dX12_fewest_19 : decode cX12_fewest 19 = .ok (.iadd, 1) := by decide +kernel
theorem dX12_fewest_20 : decode cX12_fewest 20 = .ok (.iaload, 1) := by decide +kernel
theorem dX12_fewest_21 : decode cX12_fewest 21 = .ok (.istore 4, 2) := by decide +kernel
theorem dX12_fewest_23 : decode cX12_fewest 23 = .ok (.iload 4, 2) := by decide +kernel
theorem dX12_fewest_25 : decode cX12_fewest 25 = .ok (.iconst (-1), 1) := by decide +kernel
theorem dX12_fewest_26 : decode cX12_fewest 26 = .ok (.if_icmp .eq 19, 3) := by decide +kernel
theorem dX12_fewest_29 : decode cX12_fewest 29 = .ok (.iload_n 2, 1) := by decide +kernel
theorem dX12_fewest_30 : decode cX12_fewest 30 = .ok (.iconst (-1), 1) := by decide +kernel
theorem dX12_fewest_31 : decode cX12_fewest 31 = .ok (.if_icmp .eq 9, 3) := by decide +kernel
theorem dX12_fewest_34 : decode cX12_fewest 34 = .ok (.iload 4, 2) := by decide +kernel
theorem dX12_fewest_36 : decode cX12_fewest 36 = .ok (.iload_n 2, 1) := by decide +kernel
theorem dX12_fewest_37 : decode cX12_fewest 37 = .ok (.if_icmp .ge 8, 3) := by decide +kernel
theorem dX12_fewest_40 : decode cX12_fewest 40 = .ok (.iload 4, 2) := by decide +kernel
theorem dX12_fewest_42 : decode cX12_fewest 42 = .ok (.goto 4, 3) := by decide +kernel
theorem dX12_fewest_45 : decode cX12_fewest 45 = .ok (.iload_n 2, 1) := by decide +kernel
theorem dX12_fewest_46 : decode cX12_fewest 46 = .ok (.istore_n 2, 1) := by decide +kernel
theorem dX12_fewest_47 : decode cX12_fewest 47 = .ok (.iinc 3 1, 3) := by decide +kernel
theorem dX12_fewest_50 : decode cX12_fewest 50 = .ok (.goto (-46), 3) := by decide +kernel
theorem dX12_fewest_53 : decode cX12_fewest 53 = .ok (.iload_n 2, 1) := by decide +kernel
theorem dX12_fewest_54 : decode cX12_fewest 54 = .ok (.ireturn, 1) := by decide +kernel
theorem dX12_firstOf_0 : decode cX12_firstOf 0 = .ok (.iload_n 1, 1) := by decide +kernel
theorem dX12_firstOf_1 : decode cX12_firstOf 1 = .ok (.istore_n 2, 1) := by decide +kernel
theorem dX12_firstOf_2 : decode cX12_firstOf 2 = .ok (.aload_n 0, 1) := by decide +kernel
theorem dX12_firstOf_3 : decode cX12_firstOf 3 = .ok (.getfield 28, 3) := by decide +kernel
theorem dX12_firstOf_6 : decode cX12_firstOf 6 = .ok (.bipush 6, 2) := by decide +kernel
theorem dX12_firstOf_8 : decode cX12_firstOf 8 = .ok (.iload_n 2, 1) := by decide +kernel
theorem dX12_firstOf_9 : decode cX12_firstOf 9 = .ok (.imul, 1) := by decide +kernel
theorem dX12_firstOf_10 : decode cX12_firstOf 10 = .ok (.iconst 4, 1) := by decide +kernel
theorem dX12_firstOf_11 : decode cX12_firstOf 11 = .ok (.iadd, 1) := by decide +kernel
theorem dX12_firstOf_12 : decode cX12_firstOf 12 = .ok (.iaload, 1) := by decide +kernel
theorem dX12_firstOf_13 : decode cX12_firstOf 13 = .ok (.iconst (-1), 1) := by decide +kernel
theorem dX12_firstOf_14 : decode cX12_firstOf 14 = .ok (.if_icmp .eq 18, 3) := by decide +kernel
theorem dX12_firstOf_17 : decode cX12_firstOf 17 = .ok (.aload_n 0, 1) := by decide +kernel
theorem dX12_firstOf_18 : decode cX12_firstOf 18 = .ok (.getfield 28, 3) := by decide +kernel
theorem dX12_firstOf_21 : decode cX12_firstOf 21 = .ok (.bipush 6, 2) := by decide +kernel
theorem dX12_firstOf_23 : decode cX12_firstOf 23 = .ok (.iload_n 2, 1) := by decide +kernel
theorem dX12_firstOf_24 : decode cX12_firstOf 24 = .ok (.imul, 1) := by decide +kernel
theorem dX12_firstOf_25 : decode cX12_firstOf 25 = .ok (.iconst 4, 1) := by decide +kernel
theorem dX12_firstOf_26 : decode cX12_firstOf 26 = .ok (.iadd, 1) := by decide +kernel
theorem dX12_firstOf_27 : decode cX12_firstOf 27 = .ok (.iaload, 1) := by decide +kernel
theorem dX12_firstOf_28 : decode cX12_firstOf 28 = .ok (.istore_n 2, 1) := by decide +kernel
theorem dX12_firstOf_29 : decode cX12_firstOf 29 = .ok (.goto (-27), 3) := by decide +kernel
theorem dX12_firstOf_32 : decode cX12_firstOf 32 = .ok (.iload_n 2, 1) := by decide +kernel
theorem dX12_firstOf_33 : decode cX12_firstOf 33 = .ok (.ireturn, 1) := by decide +kernel
theorem dX12_firstTo_0 : decode cX12_firstTo 0 = .ok (.aload_n 0, 1) := by decide +kernel
theorem dX12_firstTo_1 : decode cX12_firstTo 1 = .ok (.iload_n 1, 1) := by decide +kernel
theorem dX12_firstTo_2 : decode cX12_firstTo 2 = .ok (.invokevirtual 221, 3) := by decide +kernel
theorem dX12_firstTo_5 : decode cX12_firstTo 5 = .ok (.istore_n 2, 1) := by decide +kernel
theorem dX12_firstTo_6 : decode cX12_firstTo 6 = .ok (.iconst (-1), 1) := by decide +kernel
theorem dX12_firstTo_7 : decode cX12_firstTo 7 = .ok (.istore_n 3, 1) := by decide +kernel
theorem dX12_firstTo_8 : decode cX12_firstTo 8 = .ok (.iconst 0, 1) := by decide +kernel
theorem dX12_firstTo_9 : decode cX12_firstTo 9 = .ok (.istore 4, 2) := by decide +kernel
theorem dX12_firstTo_11 : decode cX12_firstTo 11 = .ok (.iload 4, 2) := by decide +kernel
theorem dX12_firstTo_13 : decode cX12_firstTo 13 = .ok (.bipush 6, 2) := by decide +kernel
theorem dX12_firstTo_15 : decode cX12_firstTo 15 = .ok (.if_icmp .ge 62, 3) := by decide +kernel
theorem dX12_firstTo_18 : decode cX12_firstTo 18 = .ok (.bipush 6, 2) := by decide +kernel
theorem dX12_firstTo_20 : decode cX12_firstTo 20 = .ok (.iload 4, 2) := by decide +kernel
theorem dX12_firstTo_22 : decode cX12_firstTo 22 = .ok (.imul, 1) := by decide +kernel
theorem dX12_firstTo_23 : decode cX12_firstTo 23 = .ok (.iload_n 1, 1) := by decide +kernel
theorem dX12_firstTo_24 : decode cX12_firstTo 24 = .ok (.iadd, 1) := by decide +kernel
theorem dX12_firstTo_25 : decode cX12_firstTo 25 = .ok (.istore 5, 2) := by decide +kernel
theorem dX12_firstTo_27 : decode cX12_firstTo 27 = .ok (.iload_n 2, 1) := by decide +kernel
theorem dX12_firstTo_28 : decode cX12_firstTo 28 = .ok (.iconst (-1), 1) := by decide +kernel
theorem dX12_firstTo_29 : decode cX12_firstTo 29 = .ok (.if_icmp .eq 40, 3) := by decide +kernel
theorem dX12_firstTo_32 : decode cX12_firstTo 32 = .ok (.aload_n 0, 1) := by decide +kernel
theorem dX12_firstTo_33 : decode cX12_firstTo 33 = .ok (.getfield 31, 3) := by decide +kernel
theorem dX12_firstTo_36 : decode cX12_firstTo 36 = .ok (.iload 5, 2) := by decide +kernel
theorem dX12_firstTo_38 : decode cX12_firstTo 38 = .ok (.iaload, 1) := by decide +kernel
theorem dX12_firstTo_39 : decode cX12_firstTo 39 = .ok (.iload_n 2, 1) := by decide +kernel
theorem dX12_firstTo_40 : decode cX12_firstTo 40 = .ok (.if_icmp .ne 29, 3) := by decide +kernel
theorem dX12_firstTo_43 : decode cX12_firstTo 43 = .ok (.iload_n 3, 1) := by decide +kernel
theorem dX12_firstTo_44 : decode cX12_firstTo 44 = .ok (.iconst (-1), 1) := by decide +kernel
theorem dX12_firstTo_45 : decode cX12_firstTo 45 = .ok (.if_icmp .eq 14, 3) := by decide +kernel
theorem dX12_firstTo_48 : decode cX12_firstTo 48 = .ok (.aload_n 0, 1) := by decide +kernel
theorem dX12_firstTo_49 : decode cX12_firstTo 49 = .ok (.getfield 34, 3) := by decide +kernel
theorem dX12_firstTo_52 : decode cX12_firstTo 52 = .ok (.iload 5, 2) := by decide +kernel
theorem dX12_firstTo_54 : decode cX12_firstTo 54 = .ok (.iaload, 1) := by decide +kernel
theorem dX12_firstTo_55 : decode cX12_firstTo 55 = .ok (.iload_n 3, 1) := by decide +kernel
theorem dX12_firstTo_56 : decode cX12_firstTo 56 = .ok (.if_icmp .ge 13, 3) := by decide +kernel
theorem dX12_firstTo_59 : decode cX12_firstTo 59 = .ok (.aload_n 0, 1) := by decide +kernel
theorem dX12_firstTo_60 : decode cX12_firstTo 60 = .ok (.getfield 34, 3) := by decide +kernel
theorem dX12_firstTo_63 : decode cX12_firstTo 63 = .ok (.iload 5, 2) := by decide +kernel
theorem dX12_firstTo_65 : decode cX12_firstTo 65 = .ok (.iaload, 1) := by decide +kernel
theorem dX12_firstTo_66 : decode cX12_firstTo 66 = .ok (.goto 4, 3) := by decide +kernel
theorem dX12_firstTo_69 : decode cX12_firstTo 69 = .ok (.iload_n 3, 1) := by decide +kernel
theorem dX12_firstTo_70 : decode cX12_firstTo 70 = .ok (.istore_n 3, 1) := by decide +kernel
theorem dX12_firstTo_71 : decode cX12_firstTo 71 = .ok (.iinc 4 1, 3) := by decide +kernel
theorem dX12_firstTo_74 : decode cX12_firstTo 74 = .ok (.goto (-63), 3) := by decide +kernel
theorem dX12_firstTo_77 : decode cX12_firstTo 77 = .ok (.iload_n 3, 1) := by decide +kernel
theorem dX12_firstTo_78 : decode cX12_firstTo 78 = .ok (.ireturn, 1) := by decide +kernel
theorem dX12_fits_0 : decode cX12_fits 0 = .ok (.aload_n 0, 1) := by decide +kernel
theorem dX12_fits_1 : decode cX12_fits 1 = .ok (.invokevirtual 244, 3) := by decide +kernel
theorem dX12_fits_4 : decode cX12_fits 4 = .ok (.ireturn, 1) := by decide +kernel
theorem dX12_fitsAt_0 : decode cX12_fitsAt 0 = .ok (.aload_n 0, 1) := by decide +kernel
theorem dX12_fitsAt_1 : decode cX12_fitsAt 1 = .ok (.getfield 43, 3) := by decide +kernel
theorem dX12_fitsAt_4 : decode cX12_fitsAt 4 = .ok (.iload_n 1, 1) := by decide +kernel
theorem dX12_fitsAt_5 : decode cX12_fitsAt 5 = .ok (.iaload, 1) := by decide +kernel
theorem dX12_fitsAt_6 : decode cX12_fitsAt 6 = .ok (.iconst (-1), 1) := by decide +kernel
theorem dX12_fitsAt_7 : decode cX12_fitsAt 7 = .ok (.if_icmp .eq 15, 3) := by decide +kernel
theorem dX12_fitsAt_10 : decode cX12_fitsAt 10 = .ok (.aload_n 0, 1) := by decide +kernel
theorem dX12_fitsAt_11 : decode cX12_fitsAt 11 = .ok (.getfield 43, 3) := by decide +kernel
theorem dX12_fitsAt_14 : decode cX12_fitsAt 14 = .ok (.iload_n 1, 1) := by decide +kernel
theorem dX12_fitsAt_15 : decode cX12_fitsAt 15 = .ok (.iaload, 1) := by decide +kernel
theorem dX12_fitsAt_16 : decode cX12_fitsAt 16 = .ok (.iload_n 2, 1) := by decide +kernel
theorem dX12_fitsAt_17 : decode cX12_fitsAt 17 = .ok (.if_icmp .eq 5, 3) := by decide +kernel
theorem dX12_fitsAt_20 : decode cX12_fitsAt 20 = .ok (.iconst 0, 1) := by decide +kernel
theorem dX12_fitsAt_21 : decode cX12_fitsAt 21 = .ok (.ireturn, 1) := by decide +kernel
theorem dX12_fitsAt_22 : decode cX12_fitsAt 22 = .ok (.iload_n 1, 1) := by decide +kernel
theorem dX12_fitsAt_23 : decode cX12_fitsAt 23 = .ok (.ifCond .eq 36, 3) := by decide +kernel
theorem dX12_fitsAt_26 : decode cX12_fitsAt 26 = .ok (.aload_n 0, 1) := by decide +kernel
theorem dX12_fitsAt_27 : decode cX12_fitsAt 27 = .ok (.iload_n 1, 1) := by decide +kernel
theorem dX12_fitsAt_28 : decode cX12_fitsAt 28 = .ok (.iconst 1, 1) := by decide +kernel
theorem dX12_fitsAt_29 : decode cX12_fitsAt 29 = .ok (.if_icmp .ne 7, 3) := by decide +kernel
theorem dX12_fitsAt_32 : decode cX12_fitsAt 32 = .ok (.iconst (-1), 1) := by decide +kernel
theorem dX12_fitsAt_33 : decode cX12_fitsAt 33 = .ok (.goto 11, 3) := by decide +kernel
theorem dX12_fitsAt_36 : decode cX12_fitsAt 36 = .ok (.aload_n 0, 1) := by decide +kernel
theorem dX12_fitsAt_37 : decode cX12_fitsAt 37 = .ok (.getfield 46, 3) := by decide +kernel
theorem dX12_fitsAt_40 : decode cX12_fitsAt 40 = .ok (.iload_n 1, 1) := by decide +kernel
theorem dX12_fitsAt_41 : decode cX12_fitsAt 41 = .ok (.iconst 2, 1) := by decide +kernel
theorem dX12_fitsAt_42 : decode cX12_fitsAt 42 = .ok (.isub, 1) := by decide +kernel
theorem dX12_fitsAt_43 : decode cX12_fitsAt 43 = .ok (.iaload, 1) := by decide +kernel
theorem dX12_fitsAt_44 : decode cX12_fitsAt 44 = .ok (.aload_n 0, 1) := by decide +kernel
theorem dX12_fitsAt_45 : decode cX12_fitsAt 45 = .ok (.getfield 46, 3) := by decide +kernel
theorem dX12_fitsAt_48 : decode cX12_fitsAt 48 = .ok (.iload_n 1, 1) := by decide +kernel
theorem dX12_fitsAt_49 : decode cX12_fitsAt 49 = .ok (.iconst 1, 1) := by decide +kernel
theorem dX12_fitsAt_50 : decode cX12_fitsAt 50 = .ok (.isub, 1) := by decide +kernel
theorem dX12_fitsAt_51 : decode cX12_fitsAt 51 = .ok (.iaload, 1) := by decide +kernel
theorem dX12_fitsAt_52 : decode cX12_fitsAt 52 = .ok (.iload_n 2, 1) := by decide +kernel
theorem dX12_fitsAt_53 : decode cX12_fitsAt 53 = .ok (.invokevirtual 189, 3) := by decide +kernel
theorem dX12_fitsAt_56 : decode cX12_fitsAt 56 = .ok (.ifCond .eq 7, 3) := by decide +kernel
theorem dX12_fitsAt_59 : decode cX12_fitsAt 59 = .ok (.iconst 1, 1) := by decide +kernel
theorem dX12_fitsAt_60 : decode cX12_fitsAt 60 = .ok (.goto 4, 3) := by decide +kernel
theorem dX12_fitsAt_63 : decode cX12_fitsAt 63 = .ok (.iconst 0, 1) := by decide +kernel
theorem dX12_fitsAt_64 : decode cX12_fitsAt 64 = .ok (.ireturn, 1) := by decide +kernel
theorem dX12_follows_0 : decode cX12_follows 0 = .ok (.iload_n 2, 1) := by decide +kernel
theorem dX12_follows_1 : decode cX12_follows 1 = .ok (.iload_n 3, 1) := by decide +kernel
theorem dX12_follows_2 : decode cX12_follows 2 = .ok (.if_icmp .eq 43, 3) := by decide +kernel
theorem dX12_follows_5 : decode cX12_follows 5 = .ok (.aload_n 0, 1) := by decide +kernel
theorem dX12_follows_6 : decode cX12_follows 6 = .ok (.iload_n 2, 1) := by decide +kernel
theorem dX12_follows_7 : decode cX12_follows 7 = .ok (.invokevirtual 186, 3) := by decide +kernel
theorem dX12_follows_10 : decode cX12_follows 10 = .ok (.ifCond .ne 35, 3) := by decide +kernel
theorem dX12_follows_13 : decode cX12_follows 13 = .ok (.aload_n 0, 1) := by decide +kernel
theorem dX12_follows_14 : decode cX12_follows 14 = .ok (.iload_n 2, 1) := by decide +kernel
theorem dX12_follows_15 : decode cX12_follows 15 = .ok (.iload_n 3, 1) := by decide +kernel
theorem dX12_follows_16 : decode cX12_follows 16 = .ok (.invokevirtual 154, 3) := by decide +kernel
theorem dX12_follows_19 : decode cX12_follows 19 = .ok (.ifCond .eq 26, 3) := by decide +kernel
theorem dX12_follows_22 : decode cX12_follows 22 = .ok (.iload_n 1, 1) := by decide +kernel
theorem dX12_follows_23 : decode cX12_follows 23 = .ok (.iconst (-1), 1) := by decide +kernel
theorem dX12_follows_24 : decode cX12_follows 24 = .ok (.if_icmp .eq 17, 3) := by decide +kernel
theorem dX12_follows_27 : decode cX12_follows 27 = .ok (.iload_n 3, 1) := by decide +kernel
theorem dX12_follows_28 : decode cX12_follows 28 = .ok (.iload_n 1, 1) := by decide +kernel
theorem dX12_follows_29 : decode cX12_follows 29 = .ok (.if_icmp .eq 16, 3) := by decide +kernel
theorem dX12_follows_32 : decode cX12_follows 32 = .ok (.aload_n 0, 1) := by decide +kernel
theorem dX12_follows_33 : decode cX12_follows 33 = .ok (.iload_n 3, 1) := by decide +kernel
theorem dX12_follows_34 : decode cX12_follows 34 = .ok (.iload_n 1, 1) := by decide +kernel
theorem dX12_follows_35 : decode cX12_follows 35 = .ok (.invokevirtual 150, 3) := by decide +kernel
theorem dX12_follows_38 : decode cX12_follows 38 = .ok (.ifCond .ne 7, 3) := by decide +kernel
theorem dX12_follows_41 : decode cX12_follows 41 = .ok (.iconst 1, 1) := by decide +kernel
theorem dX12_follows_42 : decode cX12_follows 42 = .ok (.goto 4, 3) := by decide +kernel
theorem dX12_follows_45 : decode cX12_follows 45 = .ok (.iconst 0, 1) := by decide +kernel
theorem dX12_follows_46 : decode cX12_follows 46 = .ok (.ireturn, 1) := by decide +kernel
theorem dX12_forget_0 : decode cX12_forget 0 = .ok (.aload_n 0, 1) := by decide +kernel
theorem dX12_forget_1 : decode cX12_forget 1 = .ok (.getfield 132, 3) := by decide +kernel
theorem dX12_forget_4 : decode cX12_forget 4 = .ok (.istore_n 1, 1) := by decide +kernel
theorem dX12_forget_5 : decode cX12_forget 5 = .ok (.aload_n 0, 1) := by decide +kernel
theorem dX12_forget_6 : decode cX12_forget 6 = .ok (.iconst 0, 1) := by decide +kernel
theorem dX12_forget_7 : decode cX12_forget 7 = .ok (.putfield 132, 3) := by decide +kernel
theorem dX12_forget_10 : decode cX12_forget 10 = .ok (.iload_n 1, 1) := by decide +kernel
theorem dX12_forget_11 : decode cX12_forget 11 = .ok (.ireturn, 1) := by decide +kernel
theorem dX12_go_0 : decode cX12_go 0 = .ok (.iload_n 1, 1) := by decide +kernel
theorem dX12_go_1 : decode cX12_go 1 = .ok (.bipush 48, 2) := by decide +kernel
theorem dX12_go_3 : decode cX12_go 3 = .ok (.isub, 1) := by decide +kernel
theorem dX12_go_4 : decode cX12_go 4 = .ok (.istore_n 2, 1) := by decide +kernel
theorem dX12_go_5 : decode cX12_go 5 = .ok (.aload_n 0, 1) := by decide +kernel
theorem dX12_go_6 : decode cX12_go 6 = .ok (.getfield 92, 3) := by decide +kernel
theorem dX12_go_9 : decode cX12_go 9 = .ok (.tableswitch 296 0 9 #[55, 55, 115, 126, 175, 195, 207, 258, 296, 279], 55) := by decide +kernel
theorem dX12_go_64 : decode cX12_go 64 = .ok (.aload_n 0, 1) := by decide +kernel
theorem dX12_go_65 : decode cX12_go 65 = .ok (.getfield 92, 3) := by decide +kernel
theorem dX12_go_68 : decode cX12_go 68 = .ok (.ifCond .ne 13, 3) := by decide +kernel
theorem dX12_go_71 : decode cX12_go 71 = .ok (.iload_n 1, 1) := by decide +kernel
theorem dX12_go_72 : decode cX12_go 72 = .ok (.bipush 45, 2) := by decide +kernel
theorem dX12_go_74 : decode cX12_go 74 = .ok (.if_icmp .ne 7, 3) := by decide +kernel
theorem dX12_go_77 : decode cX12_go 77 = .ok (.iconst 1, 1) := by decide +kernel
theorem dX12_go_78 : decode cX12_go 78 = .ok (.goto 4, 3) := by decide +kernel
theorem dX12_go_81 : decode cX12_go 81 = .ok (.iconst 0, 1) := by decide +kernel
theorem dX12_go_82 : decode cX12_go 82 = .ok (.istore_n 3, 1) := by decide +kernel
theorem dX12_go_83 : decode cX12_go 83 = .ok (.aload_n 0, 1) := by decide +kernel
theorem dX12_go_84 : decode cX12_go 84 = .ok (.iload_n 3, 1) := by decide +kernel
theorem dX12_go_85 : decode cX12_go 85 = .ok (.ifCond .eq 8, 3) := by decide +kernel
theorem dX12_go_88 : decode cX12_go 88 = .ok (.bipush 9, 2) := by decide +kernel
theorem dX12_go_90 : decode cX12_go 90 = .ok (.goto 4, 3) := by decide +kernel
theorem dX12_go_93 : decode cX12_go 93 = .ok (.iconst 2, 1) := by decide +kernel
theorem dX12_go_94 : decode cX12_go 94 = .ok (.putfield 92, 3) := by decide +kernel
theorem dX12_go_97 : decode cX12_go 97 = .ok (.aload_n 0, 1) := by decide +kernel
theorem dX12_go_98 : decode cX12_go 98 = .ok (.iload_n 2, 1) := by decide +kernel
theorem dX12_go_99 : decode cX12_go 99 = .ok (.putfield 79, 3) := by decide +kernel
theorem dX12_go_102 : decode cX12_go 102 = .ok (.iload_n 3, 1) := by decide +kernel
theorem dX12_go_103 : decode cX12_go 103 = .ok (.ifCond .ne 15, 3) := by decide +kernel
theorem dX12_go_106 : decode cX12_go 106 = .ok (.iload_n 2, 1) := by decide +kernel
theorem dX12_go_107 : decode cX12_go 107 = .ok (.i2l, 1) := by decide +kernel
theorem dX12_go_108 : decode cX12_go 108 = .ok (.lconst 0, 1) := by decide +kernel
theorem dX12_go_109 : decode cX12_go 109 = .ok (.ldc2_w 77, 3) := by decide +kernel
theorem dX12_go_112 : decode cX12_go 112 = .ok (.invokestatic 70, 3) := by decide +kernel
theorem dX12_go_115 : decode cX12_go 115 = .ok (.ifCond .eq 7, 3) := by decide +kernel
theorem dX12_go_118 : decode cX12_go 118 = .ok (.iconst 1, 1) := by decide +kernel
theorem dX12_go_119 : decode cX12_go 119 = .ok (.goto 4, 3) := by decide +kernel
theorem dX12_go_122 : decode cX12_go 122 = .ok (.iconst 0, 1) := by decide +kernel
theorem dX12_go_123 : decode cX12_go 123 = .ok (.ireturn, 1) := by decide +kernel
theorem dX12_go_124 : decode cX12_go 124 = .ok (.aload_n 0, 1) := by decide +kernel
theorem dX12_go_125 : decode cX12_go 125 = .ok (.iconst 3, 1) := by decide +kernel
theorem dX12_go_126 : decode cX12_go 126 = .ok (.putfield 92, 3) := by decide +kernel
theorem dX12_go_129 : decode cX12_go 129 = .ok (.aload_n 0, 1) := by decide +kernel
theorem dX12_go_130 : decode cX12_go 130 = .ok (.iload_n 2, 1) := by decide +kernel
theorem dX12_go_131 : decode cX12_go 131 = .ok (.invokevirtual 95, 3) := by decide +kernel
theorem dX12_go_134 : decode cX12_go 134 = .ok (.ireturn, 1) := by decide +kernel
theorem dX12_go_135 : decode cX12_go 135 = .ok (.aload_n 0, 1) := by decide +kernel
theorem dX12_go_136 : decode cX12_go 136 = .ok (.iload_n 1, 1) := by decide +kernel
theorem dX12_go_137 : decode cX12_go 137 = .ok (.bipush 44, 2) := by decide +kernel
theorem dX12_go_139 : decode cX12_go 139 = .ok (.if_icmp .ne 7, 3) := by decide +kernel
theorem dX12_go_142 : decode cX12_go 142 = .ok (.iconst 1, 1) := by decide +kernel
theorem dX12_go_143 : decode cX12_go 143 = .ok (.goto 4, 3) := by decide +kernel
theorem dX12_go_146 : decode cX12_go 146 = .ok (.iconst 4, 1) := by decide +kernel
theorem dX12_go_147 : decode cX12_go 147 = .ok (.putfield 92, 3) := by decide +kernel
theorem dX12_go_150 : decode cX12_go 150 = .ok (.iload_n 1, 1) := by decide +kernel
theorem dX12_go_151 : decode cX12_go 151 = .ok (.bipush 44, 2) := by decide +kernel
theorem dX12_go_153 : decode cX12_go 153 = .ok (.if_icmp .ne 19, 3) := by decide +kernel
theorem dX12_go_156 : decode cX12_go 156 = .ok (.aload_n 0, 1) := by decide +kernel
theorem dX12_go_157 : decode cX12_go 157 = .ok (.getfield 86, 3) := by decide +kernel
theorem dX12_go_160 : decode cX12_go 160 = .ok (.iconst 5, 1) := by decide +kernel
theorem dX12_go_161 : decode cX12_go 161 = .ok (.if_icmp .ge 7, 3) := by decide +kernel
theorem dX12_go_164 : decode cX12_go 164 = .ok (.iconst 1, 1) := by decide +kernel
theorem dX12_go_165 : decode cX12_go 165 = .ok (.goto 18, 3) := by decide +kernel
theorem dX12_go_168 : decode cX12_go 168 = .ok (.iconst 0, 1) := by decide +kernel
theorem dX12_go_169 : decode cX12_go 169 = .ok (.goto 14, 3) := by decide +kernel
theorem dX12_go_172 : decode cX12_go 172 = .ok (.iload_n 1, 1) := by decide +kernel
theorem dX12_go_173 : decode cX12_go 173 = .ok (.bipush 59, 2) := by decide +kernel
theorem dX12_go_175 : decode cX12_go 175 = .ok (.if_icmp .ne 7, 3) := by decide +kernel
theorem dX12_go_178 : decode cX12_go 178 = .ok (.iconst 1, 1) := by decide +kernel
theorem dX12_go_179 : decode cX12_go 179 = .ok (.goto 4, 3) := by decide +kernel
theorem dX12_go_182 : decode cX12_go 182 = .ok (.iconst 0, 1) := by decide +kernel
theorem dX12_go_183 : decode cX12_go 183 = .ok (.ireturn, 1) := by decide +kernel
theorem dX12_go_184 : decode cX12_go 184 = .ok (.aload_n 0, 1) := by decide +kernel
theorem dX12_go_185 : decode cX12_go 185 = .ok (.iconst 5, 1) := by decide +kernel
theorem dX12_go_186 : decode cX12_go 186 = .ok (.putfield 92, 3) := by decide +kernel
theorem dX12_go_189 : decode cX12_go 189 = .ok (.aload_n 0, 1) := by decide +kernel
theorem dX12_go_190 : decode cX12_go 190 = .ok (.iload_n 2, 1) := by decide +kernel
theorem dX12_go_191 : decode cX12_go 191 = .ok (.putfield 79, 3) := by decide +kernel
theorem dX12_go_194 : decode cX12_go 194 = .ok (.iload_n 2, 1) := by decide +kernel
theorem dX12_go_195 : decode cX12_go 195 = .ok (.i2l, 1) := by decide +kernel
theorem dX12_go_196 : decode cX12_go 196 = .ok (.lconst 0, 1) := by decide +kernel
theorem dX12_go_197 : decode cX12_go 197 = .ok (.ldc2_w 77, 3) := by decide +kernel
theorem dX12_go_200 : decode cX12_go 200 = .ok (.invokestatic 70, 3) := by decide +kernel
theorem dX12_go_203 : decode cX12_go 203 = .ok (.ireturn, 1) := by decide +kernel
theorem dX12_go_204 : decode cX12_go 204 = .ok (.aload_n 0, 1) := by decide +kernel
theorem dX12_go_205 : decode cX12_go 205 = .ok (.bipush 6, 2) := by decide +kernel
theorem dX12_go_207 : decode cX12_go 207 = .ok (.putfield 92, 3) := by decide +kernel
theorem dX12_go_210 : decode cX12_go 210 = .ok (.aload_n 0, 1) := by decide +kernel
theorem dX12_go_211 : decode cX12_go 211 = .ok (.iload_n 2, 1) := by decide +kernel
theorem dX12_go_212 : decode cX12_go 212 = .ok (.invokevirtual 99, 3) := by decide +kernel
theorem dX12_go_215 : decode cX12_go 215 = .ok (.ireturn, 1) := by decide +kernel
theorem dX12_go_216 : decode cX12_go 216 = .ok (.aload_n 0, 1) := by decide +kernel
theorem dX12_go_217 : decode cX12_go 217 = .ok (.iload_n 1, 1) := by decide +kernel
theorem dX12_go_218 : decode cX12_go 218 = .ok (.bipush 44, 2) := by decide +kernel
theorem dX12_go_220 : decode cX12_go 220 = .ok (.if_icmp .ne 7, 3) := by decide +kernel
theorem dX12_go_223 : decode cX12_go 223 = .ok (.iconst 4, 1) := by decide +kernel
theorem dX12_go_224 : decode cX12_go 224 = .ok (.goto 5, 3) := by decide +kernel
theorem dX12_go_227 : decode cX12_go 227 = .ok (.bipush 7, 2) := by decide +kernel
theorem dX12_go_229 : decode cX12_go 229 = .ok (.putfield 92, 3) := by decide +kernel
theorem dX12_go_232 : decode cX12_go 232 = .ok (.iload_n 1, 1) := by decide +kernel
theorem dX12_go_233 : decode cX12_go 233 = .ok (.bipush 44, 2) := by decide +kernel
theorem dX12_go_235 : decode cX12_go 235 = .ok (.if_icmp .ne 20, 3) := by decide +kernel
theorem dX12_go_238 : decode cX12_go 238 = .ok (.aload_n 0, 1) := by decide +kernel
theorem dX12_go_239 : decode cX12_go 239 = .ok (.getfield 89, 3) := by decide +kernel
theorem dX12_go_242 : decode cX12_go 242 = .ok (.bipush 12, 2) := by decide +kernel
theorem dX12_go_244 : decode cX12_go 244 = .ok (.if_icmp .ge 7, 3) := by decide +kernel
theorem dX12_go_247 : decode cX12_go 247 = .ok (.iconst 1, 1) := by decide +kernel
theorem dX12_go_248 : decode cX12_go 248 = .ok (.goto 18, 3) := by decide +kernel
theorem dX12_go_251 : decode cX12_go 251 = .ok (.iconst 0, 1) := by decide +kernel
theorem dX12_go_252 : decode cX12_go 252 = .ok (.goto 14, 3) := by decide +kernel
theorem dX12_go_255 : decode cX12_go 255 = .ok (.iload_n 1, 1) := by decide +kernel
theorem dX12_go_256 : decode cX12_go 256 = .ok (.bipush 59, 2) := by decide +kernel
theorem dX12_go_258 : decode cX12_go 258 = .ok (.if_icmp .ne 7, 3) := by decide +kernel
theorem dX12_go_261 : decode cX12_go 261 = .ok (.iconst 1, 1) := by decide +kernel
theorem dX12_go_262 : decode cX12_go 262 = .ok (.goto 4, 3) := by decide +kernel
theorem dX12_go_265 : decode cX12_go 265 = .ok (.iconst 0, 1) := by decide +kernel
theorem dX12_go_266 : decode cX12_go 266 = .ok (.ireturn, 1) := by decide +kernel
theorem dX12_go_267 : decode cX12_go 267 = .ok (.aload_n 0, 1) := by decide +kernel
theorem dX12_go_268 : decode cX12_go 268 = .ok (.bipush 8, 2) := by decide +kernel
theorem dX12_go_270 : decode cX12_go 270 = .ok (.putfield 92, 3) := by decide +kernel
theorem dX12_go_273 : decode cX12_go 273 = .ok (.aload_n 0, 1) := by decide +kernel
theorem dX12_go_274 : decode cX12_go 274 = .ok (.iload_n 2, 1) := by decide +kernel
theorem dX12_go_275 : decode cX12_go 275 = .ok (.putfield 102, 3) := by decide +kernel
theorem dX12_go_278 : decode cX12_go 278 = .ok (.iload_n 2, 1) := by decide +kernel
theorem dX12_go_279 : decode cX12_go 279 = .ok (.i2l, 1) := by decide +kernel
theorem dX12_go_280 : decode cX12_go 280 = .ok (.lconst 1, 1) := by decide +kernel
theorem dX12_go_281 : decode cX12_go 281 = .ok (.ldc2_w 105, 3) := by decide +kernel
theorem dX12_go_284 : decode cX12_go 284 = .ok (.invokestatic 70, 3) := by decide +kernel
theorem dX12_go_287 : decode cX12_go 287 = .ok (.ireturn, 1) := by decide +kernel
theorem dX12_go_288 : decode cX12_go 288 = .ok (.aload_n 0, 1) := by decide +kernel
theorem dX12_go_289 : decode cX12_go 289 = .ok (.iconst 4, 1) := by decide +kernel
theorem dX12_go_290 : decode cX12_go 290 = .ok (.putfield 92, 3) := by decide +kernel
theorem dX12_go_293 : decode cX12_go 293 = .ok (.iload_n 1, 1) := by decide +kernel
theorem dX12_go_294 : decode cX12_go 294 = .ok (.bipush 59, 2) := by decide +kernel
theorem dX12_go_296 : decode cX12_go 296 = .ok (.if_icmp .ne 7, 3) := by decide +kernel
theorem dX12_go_299 : decode cX12_go 299 = .ok (.iconst 1, 1) := by decide +kernel
theorem dX12_go_300 : decode cX12_go 300 = .ok (.goto 4, 3) := by decide +kernel
theorem dX12_go_303 : decode cX12_go 303 = .ok (.iconst 0, 1) := by decide +kernel
theorem dX12_go_304 : decode cX12_go 304 = .ok (.ireturn, 1) := by decide +kernel
theorem dX12_go_305 : decode cX12_go 305 = .ok (.iconst 0, 1) := by decide +kernel
theorem dX12_go_306 : decode cX12_go 306 = .ok (.ireturn, 1) := by decide +kernel
theorem dX12_goKin_0 : decode cX12_goKin 0 = .ok (.aload_n 0, 1) := by decide +kernel
theorem dX12_goKin_1 : decode cX12_goKin 1 = .ok (.getfield 13, 3) := by decide +kernel
theorem dX12_goKin_4 : decode cX12_goKin 4 = .ok (.aload_n 0, 1) := by decide +kernel
theorem dX12_goKin_5 : decode cX12_goKin 5 = .ok (.getfield 79, 3) := by decide +kernel
theorem dX12_goKin_8 : decode cX12_goKin 8 = .ok (.iload_n 1, 1) := by decide +kernel
theorem dX12_goKin_9 : decode cX12_goKin 9 = .ok (.invokestatic 82, 3) := by decide +kernel
theorem dX12_goKin_12 : decode cX12_goKin 12 = .ok (.istore_n 2, 1) := by decide +kernel
theorem dX12_goKin_13 : decode cX12_goKin 13 = .ok (.iload_n 2, 1) := by decide +kernel
theorem dX12_goKin_14 : decode cX12_goKin 14 = .ok (.ifCond .eq 43, 3) := by decide +kernel
theorem dX12_goKin_17 : decode cX12_goKin 17 = .ok (.aload_n 0, 1) := by decide +kernel
theorem dX12_goKin_18 : decode cX12_goKin 18 = .ok (.getfield 13, 3) := by decide +kernel
theorem dX12_goKin_21 : decode cX12_goKin 21 = .ok (.aload_n 0, 1) := by decide +kernel
theorem dX12_goKin_22 : decode cX12_goKin 22 = .ok (.getfield 79, 3) := by decide +kernel
theorem dX12_goKin_25 : decode cX12_goKin 25 = .ok (.dup2, 1) := by decide +kernel
theorem dX12_goKin_26 : decode cX12_goKin 26 = .ok (.iaload, 1) := by decide +kernel
theorem dX12_goKin_27 : decode cX12_goKin 27 = .ok (.iconst 1, 1) := by decide +kernel
theorem dX12_goKin_28 : decode cX12_goKin 28 = .ok (.iload_n 1, 1) := by decide +kernel
theorem dX12_goKin_29 : decode cX12_goKin 29 = .ok (.ishl, 1) := by decide +kernel
theorem dX12_goKin_30 : decode cX12_goKin 30 = .ok (.ior, 1) := by decide +kernel
theorem dX12_goKin_31 : decode cX12_goKin 31 = .ok (.iastore, 1) := by decide +kernel
theorem dX12_goKin_32 : decode cX12_goKin 32 = .ok (.aload_n 0, 1) := by decide +kernel
theorem dX12_goKin_33 : decode cX12_goKin 33 = .ok (.getfield 13, 3) := by decide +kernel
theorem dX12_goKin_36 : decode cX12_goKin 36 = .ok (.iload_n 1, 1) := by decide +kernel
theorem dX12_goKin_37 : decode cX12_goKin 37 = .ok (.dup2, 1) := by decide +kernel
theorem dX12_goKin_38 : decode cX12_goKin 38 = .ok (.iaload, 1) := by decide +kernel
theorem dX12_goKin_39 : decode cX12_goKin 39 = .ok (.iconst 1, 1) := by decide +kernel
theorem dX12_goKin_40 : decode cX12_goKin 40 = .ok (.aload_n 0, 1) := by decide +kernel
theorem dX12_goKin_41 : decode cX12_goKin 41 = .ok (.getfield 79, 3) := by decide +kernel
theorem dX12_goKin_44 : decode cX12_goKin 44 = .ok (.ishl, 1) := by decide +kernel
theorem dX12_goKin_45 : decode cX12_goKin 45 = .ok (.ior, 1) := by decide +kernel
theorem dX12_goKin_46 : decode cX12_goKin 46 = .ok (.iastore, 1) := by decide +kernel
theorem dX12_goKin_47 : decode cX12_goKin 47 = .ok (.aload_n 0, 1) := by decide +kernel
theorem dX12_goKin_48 : decode cX12_goKin 48 = .ok (.dup, 1) := by decide +kernel
theorem dX12_goKin_49 : decode cX12_goKin 49 = .ok (.getfield 86, 3) := by decide +kernel
theorem dX12_goKin_52 : decode cX12_goKin 52 = .ok (.iconst 1, 1) := by decide +kernel
theorem dX12_goKin_53 : decode cX12_goKin 53 = .ok (.iadd, 1) := by decide +kernel
theorem dX12_goKin_54 : decode cX12_goKin 54 = .ok (.putfield 86, 3) := by decide +kernel
theorem dX12_goKin_57 : decode cX12_goKin 57 = .ok (.iload_n 2, 1) := by decide +kernel
theorem dX12_goKin_58 : decode cX12_goKin 58 = .ok (.ireturn, 1) := by decide +kernel
theorem dX12_goMet_0 : decode cX12_goMet 0 = .ok (.aload_n 0, 1) := by decide +kernel
theorem dX12_goMet_1 : decode cX12_goMet 1 = .ok (.getfield 16, 3) := by decide +kernel
theorem dX12_goMet_4 : decode cX12_goMet 4 = .ok (.aload_n 0, 1) := by decide +kernel
theorem dX12_goMet_5 : decode cX12_goMet 5 = .ok (.getfield 79, 3) := by decide +kernel
theorem dX12_goMet_8 : decode cX12_goMet 8 = .ok (.iload_n 1, 1) := by decide +kernel
theorem dX12_goMet_9 : decode cX12_goMet 9 = .ok (.invokestatic 82, 3) := by decide +kernel
theorem dX12_goMet_12 : decode cX12_goMet 12 = .ok (.istore_n 2, 1) := by decide +kernel
theorem dX12_goMet_13 : decode cX12_goMet 13 = .ok (.iload_n 2, 1) := by decide +kernel
theorem dX12_goMet_14 : decode cX12_goMet 14 = .ok (.ifCond .eq 43, 3) := by decide +kernel
theorem dX12_goMet_17 : decode cX12_goMet 17 = .ok (.aload_n 0, 1) := by decide +kernel
theorem dX12_goMet_18 : decode cX12_goMet 18 = .ok (.getfield 16, 3) := by decide +kernel
theorem dX12_goMet_21 : decode cX12_goMet 21 = .ok (.aload_n 0, 1) := by decide +kernel
theorem dX12_goMet_22 : decode cX12_goMet 22 = .ok (.getfield 79, 3) := by decide +kernel
theorem dX12_goMet_25 : decode cX12_goMet 25 = .ok (.dup2, 1) := by decide +kernel
theorem dX12_goMet_26 : decode cX12_goMet 26 = .ok (.iaload, 1) := by decide +kernel
theorem dX12_goMet_27 : decode cX12_goMet 27 = .ok (.iconst 1, 1) := by decide +kernel
theorem dX12_goMet_28 : decode cX12_goMet 28 = .ok (.iload_n 1, 1) := by decide +kernel
theorem dX12_goMet_29 : decode cX12_goMet 29 = .ok (.ishl, 1) := by decide +kernel
theorem dX12_goMet_30 : decode cX12_goMet 30 = .ok (.ior, 1) := by decide +kernel
theorem dX12_goMet_31 : decode cX12_goMet 31 = .ok (.iastore, 1) := by decide +kernel
theorem dX12_goMet_32 : decode cX12_goMet 32 = .ok (.aload_n 0, 1) := by decide +kernel
theorem dX12_goMet_33 : decode cX12_goMet 33 = .ok (.getfield 16, 3) := by decide +kernel
theorem dX12_goMet_36 : decode cX12_goMet 36 = .ok (.iload_n 1, 1) := by decide +kernel
theorem dX12_goMet_37 : decode cX12_goMet 37 = .ok (.dup2, 1) := by decide +kernel
theorem dX12_goMet_38 : decode cX12_goMet 38 = .ok (.iaload, 1) := by decide +kernel
theorem dX12_goMet_39 : decode cX12_goMet 39 = .ok (.iconst 1, 1) := by decide +kernel
theorem dX12_goMet_40 : decode cX12_goMet 40 = .ok (.aload_n 0, 1) := by decide +kernel
theorem dX12_goMet_41 : decode cX12_goMet 41 = .ok (.getfield 79, 3) := by decide +kernel
theorem dX12_goMet_44 : decode cX12_goMet 44 = .ok (.ishl, 1) := by decide +kernel
theorem dX12_goMet_45 : decode cX12_goMet 45 = .ok (.ior, 1) := by decide +kernel
theorem dX12_goMet_46 : decode cX12_goMet 46 = .ok (.iastore, 1) := by decide +kernel
theorem dX12_goMet_47 : decode cX12_goMet 47 = .ok (.aload_n 0, 1) := by decide +kernel
theorem dX12_goMet_48 : decode cX12_goMet 48 = .ok (.dup, 1) := by decide +kernel
theorem dX12_goMet_49 : decode cX12_goMet 49 = .ok (.getfield 89, 3) := by decide +kernel
theorem dX12_goMet_52 : decode cX12_goMet 52 = .ok (.iconst 1, 1) := by decide +kernel
theorem dX12_goMet_53 : decode cX12_goMet 53 = .ok (.iadd, 1) := by decide +kernel
theorem dX12_goMet_54 : decode cX12_goMet 54 = .ok (.putfield 89, 3) := by decide +kernel
theorem dX12_goMet_57 : decode cX12_goMet 57 = .ok (.iload_n 2, 1) := by decide +kernel
theorem dX12_goMet_58 : decode cX12_goMet 58 = .ok (.ireturn, 1) := by decide +kernel
theorem dX12_homeMany_0 : decode cX12_homeMany 0 = .ok (.iconst 0, 1) := by decide +kernel
theorem dX12_homeMany_1 : decode cX12_homeMany 1 = .ok (.istore_n 1, 1) := by decide +kernel
theorem dX12_homeMany_2 : decode cX12_homeMany 2 = .ok (.iconst 0, 1) := by decide +kernel
theorem dX12_homeMany_3 : decode cX12_homeMany 3 = .ok (.istore_n 2, 1) := by decide +kernel
theorem dX12_homeMany_4 : decode cX12_homeMany 4 = .ok (.iload_n 2, 1) := by decide +kernel
theorem dX12_homeMany_5 : decode cX12_homeMany 5 = .ok (.aload_n 0, 1) := by decide +kernel
theorem dX12_homeMany_6 : decode cX12_homeMany 6 = .ok (.getfield 129, 3) := by decide +kernel
theorem dX12_homeMany_9 : decode cX12_homeMany 9 = .ok (.if_icmp .ge 40, 3) := by decide +kernel
theorem dX12_homeMany_12 : decode cX12_homeMany 12 = .ok (.iload_n 1, 1) := by decide +kernel
theorem dX12_homeMany_13 : decode cX12_homeMany 13 = .ok (.aload_n 0, 1) := by decide +kernel
theorem dX12_homeMany_14 : decode cX12_homeMany 14 = .ok (.getfield 28, 3) := by decide +kernel
theorem dX12_homeMany_17 : decode cX12_homeMany 17 = .ok (.bipush 6, 2) := by decide +kernel
theorem dX12_homeMany_19 : decode cX12_homeMany 19 = .ok (.iload_n 2, 1) := by decide +kernel
theorem dX12_homeMany_20 : decode cX12_homeMany 20 = .ok (.imul, 1) := by decide +kernel
theorem dX12_homeMany_21 : decode cX12_homeMany 21 = .ok (.iconst 4, 1) := by decide +kernel
theorem dX12_homeMany_22 : decode cX12_homeMany 22 = .ok (.iadd, 1) := by decide +kernel
theorem dX12_homeMany_23 : decode cX12_homeMany 23 = .ok (.iaload, 1) := by decide +kernel
theorem dX12_homeMany_24 : decode cX12_homeMany 24 = .ok (.iconst (-1), 1) := by decide +kernel
theorem dX12_homeMany_25 : decode cX12_homeMany 25 = .ok (.if_icmp .ne 15, 3) := by decide +kernel
theorem dX12_homeMany_28 : decode cX12_homeMany 28 = .ok (.aload_n 0, 1) := by decide +kernel
theorem dX12_homeMany_29 : decode cX12_homeMany 29 = .ok (.iload_n 2, 1) := by decide +kernel
theorem dX12_homeMany_30 : decode cX12_homeMany 30 = .ok (.invokevirtual 215, 3) := by decide +kernel
theorem dX12_homeMany_33 : decode cX12_homeMany 33 = .ok (.ifCond .eq 7, 3) := by decide +kernel
theorem dX12_homeMany_36 : decode cX12_homeMany 36 = .ok (.iconst 1, 1) := by decide +kernel
theorem dX12_homeMany_37 : decode cX12_homeMany 37 = .ok (.goto 4, 3) := by decide +kernel
theorem dX12_homeMany_40 : decode cX12_homeMany 40 = .ok (.iconst 0, 1) := by decide +kernel
theorem dX12_homeMany_41 : decode cX12_homeMany 41 = .ok (.iadd, 1) := by decide +kernel
theorem dX12_homeMany_42 : decode cX12_homeMany 42 = .ok (.istore_n 1, 1) := by decide +kernel
theorem dX12_homeMany_43 : decode cX12_homeMany 43 = .ok (.iinc 2 1, 3) := by decide +kernel
theorem dX12_homeMany_46 : decode cX12_homeMany 46 = .ok (.goto (-42), 3) := by decide +kernel
theorem dX12_homeMany_49 : decode cX12_homeMany 49 = .ok (.iload_n 1, 1) := by decide +kernel
theorem dX12_homeMany_50 : decode cX12_homeMany 50 = .ok (.ireturn, 1) := by decide +kernel
theorem dX12_image_0 : decode cX12_image 0 = .ok (.aload_n 0, 1) := by decide +kernel
theorem dX12_image_1 : decode cX12_image 1 = .ok (.invokevirtual 166, 3) := by decide +kernel
theorem dX12_image_4 : decode cX12_image 4 = .ok (.ifCond .eq 6, 3) := by decide +kernel
theorem dX12_image_7 : decode cX12_image 7 = .ok (.bipush (-103), 2) := by decide +kernel
theorem dX12_image_9 : decode cX12_image 9 = .ok (.ireturn, 1) := by decide +kernel
theorem dX12_image_10 : decode cX12_image 10 = .ok (.aload_n 0, 1) := by decide +kernel
theorem dX12_image_11 : decode cX12_image 11 = .ok (.getfield 28, 3) := by decide +kernel
theorem dX12_image_14 : decode cX12_image 14 = .ok (.aload_n 0, 1) := by decide +kernel
theorem dX12_image_15 : decode cX12_image 15 = .ok (.getfield 55, 3) := by decide +kernel
theorem dX12_image_18 : decode cX12_image 18 = .ok (.invokestatic 261, 3) := by decide +kernel
theorem dX12_image_21 : decode cX12_image 21 = .ok (.aload_n 0, 1) := by decide +kernel
theorem dX12_image_22 : decode cX12_image 22 = .ok (.getfield 43, 3) := by decide +kernel
theorem dX12_image_25 : decode cX12_image 25 = .ok (.aload_n 0, 1) := by decide +kernel
theorem dX12_image_26 : decode cX12_image 26 = .ok (.getfield 58, 3) := by decide +kernel
theorem dX12_image_29 : decode cX12_image 29 = .ok (.invokestatic 261, 3) := by decide +kernel
theorem dX12_image_32 : decode cX12_image 32 = .ok (.aload_n 0, 1) := by decide +kernel
theorem dX12_image_33 : decode cX12_image 33 = .ok (.aload_n 0, 1) := by decide +kernel
theorem dX12_image_34 : decode cX12_image 34 = .ok (.getfield 126, 3) := by decide +kernel
theorem dX12_image_37 : decode cX12_image 37 = .ok (.putfield 277, 3) := by decide +kernel
theorem dX12_image_40 : decode cX12_image 40 = .ok (.aload_n 0, 1) := by decide +kernel
theorem dX12_image_41 : decode cX12_image 41 = .ok (.aload_n 0, 1) := by decide +kernel
theorem dX12_image_42 : decode cX12_image 42 = .ok (.getfield 129, 3) := by decide +kernel
theorem dX12_image_45 : decode cX12_image 45 = .ok (.putfield 280, 3) := by decide +kernel
theorem dX12_image_48 : decode cX12_image 48 = .ok (.aload_n 0, 1) := by decide +kernel
theorem dX12_image_49 : decode cX12_image 49 = .ok (.aload_n 0, 1) := by decide +kernel
theorem dX12_image_50 : decode cX12_image 50 = .ok (.getfield 123, 3) := by decide +kernel
theorem dX12_image_53 : decode cX12_image 53 = .ok (.putfield 283, 3) := by decide +kernel
theorem dX12_image_56 : decode cX12_image 56 = .ok (.aload_n 0, 1) := by decide +kernel
theorem dX12_image_57 : decode cX12_image 57 = .ok (.aload_n 0, 1) := by decide +kernel
theorem dX12_image_58 : decode cX12_image 58 = .ok (.getfield 132, 3) := by decide +kernel
theorem dX12_image_61 : decode cX12_image 61 = .ok (.putfield 286, 3) := by decide +kernel
theorem dX12_image_64 : decode cX12_image 64 = .ok (.aload_n 0, 1) := by decide +kernel
theorem dX12_image_65 : decode cX12_image 65 = .ok (.aload_n 0, 1) := by decide +kernel
theorem dX12_image_66 : decode cX12_image 66 = .ok (.getfield 135, 3) := by decide +kernel
theorem dX12_image_69 : decode cX12_image 69 = .ok (.putfield 61, 3) := by decide +kernel
theorem dX12_image_72 : decode cX12_image 72 = .ok (.aload_n 0, 1) := by decide +kernel
theorem dX12_image_73 : decode cX12_image 73 = .ok (.getfield 123, 3) := by decide +kernel
theorem dX12_image_76 : decode cX12_image 76 = .ok (.ireturn, 1) := by decide +kernel
theorem dX12_in_0 : decode cX12_in 0 = .ok (.lload_n 0, 1) := by decide +kernel
theorem dX12_in_1 : decode cX12_in 1 = .ok (.lload_n 2, 1) := by decide +kernel
theorem dX12_in_2 : decode cX12_in 2 = .ok (.lcmp, 1) := by decide +kernel
theorem dX12_in_3 : decode cX12_in 3 = .ok (.ifCond .lt 14, 3) := by decide +kernel
theorem dX12_in_6 : decode cX12_in 6 = .ok (.lload_n 0, 1) := by decide +kernel
theorem dX12_in_7 : decode cX12_in 7 = .ok (.lload 4, 2) := by decide +kernel
theorem dX12_in_9 : decode cX12_in 9 = .ok (.lcmp, 1) := by decide +kernel
theorem dX12_in_10 : decode cX12_in 10 = .ok (.ifCond .gt 7, 3) := by decide +kernel
theorem dX12_in_13 : decode cX12_in 13 = .ok (.iconst 1, 1) := by decide +kernel
theorem dX12_in_14 : decode cX12_in 14 = .ok (.goto 4, 3) := by decide +kernel
theorem dX12_in_17 : decode cX12_in 17 = .ok (.iconst 0, 1) := by decide +kernel
theorem dX12_in_18 : decode cX12_in 18 = .ok (.ireturn, 1) := by decide +kernel
theorem dX12_init_0 : decode cX12_init 0 = .ok (.aload_n 0, 1) := by decide +kernel
theorem dX12_init_1 : decode cX12_init 1 = .ok (.invokespecial 1, 3) := by decide +kernel
theorem dX12_init_4 : decode cX12_init 4 = .ok (.aload_n 0, 1) := by decide +kernel
theorem dX12_init_5 : decode cX12_init 5 = .ok (.bipush 54, 2) := by decide +kernel
theorem dX12_init_7 : decode cX12_init 7 = .ok (.newarray .int, 2) := by decide +kernel
theorem dX12_init_9 : decode cX12_init 9 = .ok (.putfield 7, 3) := by decide +kernel
theorem dX12_init_12 : decode cX12_init 12 = .ok (.aload_n 0, 1) := by decide +kernel
theorem dX12_init_13 : decode cX12_init 13 = .ok (.bipush 6, 2) := by decide +kernel
theorem dX12_init_15 : decode cX12_init 15 = .ok (.newarray .int, 2) := by decide +kernel
theorem dX12_init_17 : decode cX12_init 17 = .ok (.putfield 13, 3) := by decide +kernel
theorem dX12_init_20 : decode cX12_init 20 = .ok (.aload_n 0, 1) := by decide +kernel
theorem dX12_init_21 : decode cX12_init 21 = .ok (.bipush 6, 2) := by decide +kernel
theorem dX12_init_23 : decode cX12_init 23 = .ok (.newarray .int, 2) := by decide +kernel
theorem dX12_init_25 : decode cX12_init 25 = .ok (.putfield 16, 3) := by decide +kernel
theorem dX12_init_28 : decode cX12_init 28 = .ok (.aload_n 0, 1) := by decide +kernel
theorem dX12_init_29 : decode cX12_init 29 = .ok (.bipush 6, 2) := by decide +kernel
theorem dX12_init_31 : decode cX12_init 31 = .ok (.newarray .int, 2) := by decide +kernel
theorem dX12_init_33 : decode cX12_init 33 = .ok (.putfield 19, 3) := by decide +kernel
theorem dX12_init_36 : decode cX12_init 36 = .ok (.aload_n 0, 1) := by decide +kernel
theorem dX12_init_37 : decode cX12_init 37 = .ok (.bipush 6, 2) := by decide +kernel
theorem dX12_init_39 : decode cX12_init 39 = .ok (.newarray .int, 2) := by decide +kernel
theorem dX12_init_41 : decode cX12_init 41 = .ok (.putfield 22, 3) := by decide +kernel
theorem dX12_init_44 : decode cX12_init 44 = .ok (.aload_n 0, 1) := by decide +kernel
theorem dX12_init_45 : decode cX12_init 45 = .ok (.bipush 6, 2) := by decide +kernel
theorem dX12_init_47 : decode cX12_init 47 = .ok (.newarray .int, 2) := by decide +kernel
theorem dX12_init_49 : decode cX12_init 49 = .ok (.putfield 25, 3) := by decide +kernel
theorem dX12_init_52 : decode cX12_init 52 = .ok (.aload_n 0, 1) := by decide +kernel
theorem dX12_init_53 : decode cX12_init 53 = .ok (.bipush 72, 2) := by decide +kernel
theorem dX12_init_55 : decode cX12_init 55 = .ok (.newarray .int, 2) := by decide +kernel
theorem dX12_init_57 : decode cX12_init 57 = .ok (.putfield 28, 3) := by decide +kernel
theorem dX12_init_60 : decode cX12_init 60 = .ok (.aload_n 0, 1) := by decide +kernel
theorem dX12_init_61 : decode cX12_init 61 = .ok (.bipush 36, 2) := by decide +kernel
theorem dX12_init_63 : decode cX12_init 63 = .ok (.newarray .int, 2) := by decide +kernel
theorem dX12_init_65 : decode cX12_init 65 = .ok (.putfield 31, 3) := by decide +kernel
theorem dX12_init_68 : decode cX12_init 68 = .ok (.aload_n 0, 1) := by decide +kernel
theorem dX12_init_69 : decode cX12_init 69 = .ok (.bipush 36, 2) := by decide +kernel
theorem dX12_init_71 : decode cX12_init 71 = .ok (.newarray .int, 2) := by decide +kernel
theorem dX12_init_73 : decode cX12_init 73 = .ok (.putfield 34, 3) := by decide +kernel
theorem dX12_init_76 : decode cX12_init 76 = .ok (.aload_n 0, 1) := by decide +kernel
theorem dX12_init_77 : decode cX12_init 77 = .ok (.bipush 36, 2) := by decide +kernel
theorem dX12_init_79 : decode cX12_init 79 = .ok (.newarray .int, 2) := by decide +kernel
theorem dX12_init_81 : decode cX12_init 81 = .ok (.putfield 37, 3) := by decide +kernel
theorem dX12_init_84 : decode cX12_init 84 = .ok (.aload_n 0, 1) := by decide +kernel
theorem dX12_init_85 : decode cX12_init 85 = .ok (.bipush 36, 2) := by decide +kernel
theorem dX12_init_87 : decode cX12_init 87 = .ok (.newarray .int, 2) := by decide +kernel
theorem dX12_init_89 : decode cX12_init 89 = .ok (.putfield 40, 3) := by decide +kernel
theorem dX12_init_92 : decode cX12_init 92 = .ok (.aload_n 0, 1) := by decide +kernel
theorem dX12_init_93 : decode cX12_init 93 = .ok (.bipush 7, 2) := by decide +kernel
theorem dX12_init_95 : decode cX12_init 95 = .ok (.newarray .int, 2) := by decide +kernel
theorem dX12_init_97 : decode cX12_init 97 = .ok (.putfield 43, 3) := by decide +kernel
theorem dX12_init_100 : decode cX12_init 100 = .ok (.aload_n 0, 1) := by decide +kernel
theorem dX12_init_101 : decode cX12_init 101 = .ok (.bipush 7, 2) := by decide +kernel
theorem dX12_init_103 : decode cX12_init 103 = .ok (.newarray .int, 2) := by decide +kernel
theorem dX12_init_105 : decode cX12_init 105 = .ok (.putfield 46, 3) := by decide +kernel
theorem dX12_init_108 : decode cX12_init 108 = .ok (.aload_n 0, 1) := by decide +kernel
theorem dX12_init_109 : decode cX12_init 109 = .ok (.bipush 7, 2) := by decide +kernel
theorem dX12_init_111 : decode cX12_init 111 = .ok (.newarray .int, 2) := by decide +kernel
theorem dX12_init_113 : decode cX12_init 113 = .ok (.putfield 49, 3) := by decide +kernel
theorem dX12_init_116 : decode cX12_init 116 = .ok (.aload_n 0, 1) := by decide +kernel
theorem dX12_init_117 : decode cX12_init 117 = .ok (.bipush 72, 2) := by decide +kernel
theorem dX12_init_119 : decode cX12_init 119 = .ok (.newarray .int, 2) := by decide +kernel
theorem dX12_init_121 : decode cX12_init 121 = .ok (.putfield 52, 3) := by decide +kernel
theorem dX12_init_124 : decode cX12_init 124 = .ok (.aload_n 0, 1) := by decide +kernel
theorem dX12_init_125 : decode cX12_init 125 = .ok (.bipush 72, 2) := by decide +kernel
theorem dX12_init_127 : decode cX12_init 127 = .ok (.newarray .int, 2) := by decide +kernel
theorem dX12_init_129 : decode cX12_init 129 = .ok (.putfield 55, 3) := by decide +kernel
theorem dX12_init_132 : decode cX12_init 132 = .ok (.aload_n 0, 1) := by decide +kernel
theorem dX12_init_133 : decode cX12_init 133 = .ok (.bipush 7, 2) := by decide +kernel
theorem dX12_init_135 : decode cX12_init 135 = .ok (.newarray .int, 2) := by decide +kernel
theorem dX12_init_137 : decode cX12_init 137 = .ok (.putfield 58, 3) := by decide +kernel
theorem dX12_init_140 : decode cX12_init 140 = .ok (.aload_n 0, 1) := by decide +kernel
theorem dX12_init_141 : decode cX12_init 141 = .ok (.iconst (-1), 1) := by decide +kernel
theorem dX12_init_142 : decode cX12_init 142 = .ok (.putfield 61, 3) := by decide +kernel
theorem dX12_init_145 : decode cX12_init 145 = .ok (.aload_n 0, 1) := by decide +kernel
theorem dX12_init_146 : decode cX12_init 146 = .ok (.iconst (-1), 1) := by decide +kernel
theorem dX12_init_147 : decode cX12_init 147 = .ok (.putfield 65, 3) := by decide +kernel
theorem dX12_init_150 : decode cX12_init 150 = .ok (.return_, 1) := by decide +kernel
theorem dX12_isFavour_0 : decode cX12_isFavour 0 = .ok (.iload_n 1, 1) := by decide +kernel
theorem dX12_isFavour_1 : decode cX12_isFavour 1 = .ok (.i2l, 1) := by decide +kernel
theorem dX12_isFavour_2 : decode cX12_isFavour 2 = .ok (.lconst 0, 1) := by decide +kernel
theorem dX12_isFavour_3 : decode cX12_isFavour 3 = .ok (.aload_n 0, 1) := by decide +kernel
theorem dX12_isFavour_4 : decode cX12_isFavour 4 = .ok (.getfield 129, 3) := by decide +kernel
theorem dX12_isFavour_7 : decode cX12_isFavour 7 = .ok (.iconst 1, 1) := by decide +kernel
theorem dX12_isFavour_8 : decode cX12_isFavour 8 = .ok (.isub, 1) := by decide +kernel
theorem dX12_isFavour_9 : decode cX12_isFavour 9 = .ok (.i2l, 1) := by decide +kernel
theorem dX12_isFavour_10 : decode cX12_isFavour 10 = .ok (.invokestatic 70, 3) := by decide +kernel
theorem dX12_isFavour_13 : decode cX12_isFavour 13 = .ok (.ireturn, 1) := by decide +kernel
theorem dX12_isHome_0 : decode cX12_isHome 0 = .ok (.iconst 0, 1) := by decide +kernel
theorem dX12_isHome_1 : decode cX12_isHome 1 = .ok (.istore_n 2, 1) := by decide +kernel
theorem dX12_isHome_2 : decode cX12_isHome 2 = .ok (.aload_n 0, 1) := by decide +kernel
theorem dX12_isHome_3 : decode cX12_isHome 3 = .ok (.getfield 28, 3) := by decide +kernel
theorem dX12_isHome_6 : decode cX12_isHome 6 = .ok (.bipush 6, 2) := by decide +kernel
theorem dX12_isHome_8 : decode cX12_isHome 8 = .ok (.iload_n 1, 1) := by decide +kernel
theorem dX12_isHome_9 : decode cX12_isHome 9 = .ok (.imul, 1) := by decide +kernel
theorem dX12_isHome_10 : decode cX12_isHome 10 = .ok (.iconst 5, 1) := by decide +kernel
theorem dX12_isHome_11 : decode cX12_isHome 11 = .ok (.iadd, 1) := by decide +kernel
theorem dX12_isHome_12 : decode cX12_isHome 12 = .ok (.iaload, 1) := by decide +kernel
theorem dX12_isHome_13 : decode cX12_isHome 13 = .ok (.istore_n 3, 1) := by decide +kernel
theorem dX12_isHome_14 : decode cX12_isHome 14 = .ok (.iload_n 3, 1) := by decide +kernel
theorem dX12_isHome_15 : decode cX12_isHome 15 = .ok (.iconst (-1), 1) := by decide +kernel
theorem dX12_isHome_16 : decode cX12_isHome 16 = .ok (.if_icmp .eq 51, 3) := by decide +kernel
theorem dX12_isHome_19 : decode cX12_isHome 19 = .ok (.iload_n 2, 1) := by decide +kernel
theorem dX12_isHome_20 : decode cX12_isHome 20 = .ok (.ifCond .ne 26, 3) := by decide +kernel
theorem dX12_isHome_23 : decode cX12_isHome 23 = .ok (.aload_n 0, 1) := by decide +kernel
theorem dX12_isHome_24 : decode cX12_isHome 24 = .ok (.getfield 28, 3) := by decide +kernel
theorem dX12_isHome_27 : decode cX12_isHome 27 = .ok (.bipush 6, 2) := by decide +kernel
theorem dX12_isHome_29 : decode cX12_isHome 29 = .ok (.iload_n 3, 1) := by decide +kernel
theorem dX12_isHome_30 : decode cX12_isHome 30 = .ok (.imul, 1) := by decide +kernel
theorem dX12_isHome_31 : decode cX12_isHome 31 = .ok (.iconst 1, 1) := by decide +kernel
theorem dX12_isHome_32 : decode cX12_isHome 32 = .ok (.iadd, 1) := by decide +kernel
theorem dX12_isHome_33 : decode cX12_isHome 33 = .ok (.iaload, 1) := by decide +kernel
theorem dX12_isHome_34 : decode cX12_isHome 34 = .ok (.aload_n 0, 1) := by decide +kernel
theorem dX12_isHome_35 : decode cX12_isHome 35 = .ok (.getfield 28, 3) := by decide +kernel
theorem dX12_isHome_38 : decode cX12_isHome 38 = .ok (.bipush 6, 2) := by decide +kernel
theorem dX12_isHome_40 : decode cX12_isHome 40 = .ok (.iload_n 1, 1) := by decide +kernel
theorem dX12_isHome_41 : decode cX12_isHome 41 = .ok (.imul, 1) := by decide +kernel
theorem dX12_isHome_42 : decode cX12_isHome 42 = .ok (.iaload, 1) := by decide +kernel
theorem dX12_isHome_43 : decode cX12_isHome 43 = .ok (.if_icmp .ne 7, 3) := by decide +kernel
theorem dX12_isHome_46 : decode cX12_isHome 46 = .ok (.iconst 1, 1) := by decide +kernel
theorem dX12_isHome_47 : decode cX12_isHome 47 = .ok (.goto 4, 3) := by decide +kernel
theorem dX12_isHome_50 : decode cX12_isHome 50 = .ok (.iconst 0, 1) := by decide +kernel
theorem dX12_isHome_51 : decode cX12_isHome 51 = .ok (.istore_n 2, 1) := by decide +kernel
theorem dX12_isHome_52 : decode cX12_isHome 52 = .ok (.aload_n 0, 1) := by decide +kernel
theorem dX12_isHome_53 : decode cX12_isHome 53 = .ok (.getfield 28, 3) := by decide +kernel
theorem dX12_isHome_56 : decode cX12_isHome 56 = .ok (.bipush 6, 2) := by decide +kernel
theorem dX12_isHome_58 : decode cX12_isHome 58 = .ok (.iload_n 3, 1) := by decide +kernel
theorem dX12_isHome_59 : decode cX12_isHome 59 = .ok (.imul, 1) := by decide +kernel
theorem dX12_isHome_60 : decode cX12_isHome 60 = .ok (.iconst 5, 1) := by decide +kernel
theorem dX12_isHome_61 : decode cX12_isHome 61 = .ok (.iadd, 1) := by decide +kernel
theorem dX12_isHome_62 : decode cX12_isHome 62 = .ok (.iaload, 1) := by decide +kernel
theorem dX12_isHome_63 : decode cX12_isHome 63 = .ok (.istore_n 3, 1) := by decide +kernel
theorem dX12_isHome_64 : decode cX12_isHome 64 = .ok (.goto (-50), 3) := by decide +kernel
theorem dX12_isHome_67 : decode cX12_isHome 67 = .ok (.iload_n 2, 1) := by decide +kernel
theorem dX12_isHome_68 : decode cX12_isHome 68 = .ok (.ireturn, 1) := by decide +kernel
theorem dX12_isLate_0 : decode cX12_isLate 0 = .ok (.aload_n 0, 1) := by decide +kernel
theorem dX12_isLate_1 : decode cX12_isLate 1 = .ok (.getfield 123, 3) := by decide +kernel
theorem dX12_isLate_4 : decode cX12_isLate 4 = .ok (.aload_n 0, 1) := by decide +kernel
theorem dX12_isLate_5 : decode cX12_isLate 5 = .ok (.getfield 28, 3) := by decide +kernel
theorem dX12_isLate_8 : decode cX12_isLate 8 = .ok (.bipush 6, 2) := by decide +kernel
theorem dX12_isLate_10 : decode cX12_isLate 10 = .ok (.iload_n 1, 1) := by decide +kernel
theorem dX12_isLate_11 : decode cX12_isLate 11 = .ok (.imul, 1) := by decide +kernel
theorem dX12_isLate_12 : decode cX12_isLate 12 = .ok (.iconst 3, 1) := by decide +kernel
theorem dX12_isLate_13 : decode cX12_isLate 13 = .ok (.iadd, 1) := by decide +kernel
theorem dX12_isLate_14 : decode cX12_isLate 14 = .ok (.iaload, 1) := by decide +kernel
theorem dX12_isLate_15 : decode cX12_isLate 15 = .ok (.isub, 1) := by decide +kernel
theorem dX12_isLate_16 : decode cX12_isLate 16 = .ok (.aload_n 0, 1) := by decide +kernel
theorem dX12_isLate_17 : decode cX12_isLate 17 = .ok (.aload_n 0, 1) := by decide +kernel
theorem dX12_isLate_18 : decode cX12_isLate 18 = .ok (.getfield 28, 3) := by decide +kernel
theorem dX12_isLate_21 : decode cX12_isLate 21 = .ok (.bipush 6, 2) := by decide +kernel
theorem dX12_isLate_23 : decode cX12_isLate 23 = .ok (.iload_n 1, 1) := by decide +kernel
theorem dX12_isLate_24 : decode cX12_isLate 24 = .ok (.imul, 1) := by decide +kernel
theorem dX12_isLate_25 : decode cX12_isLate 25 = .ok (.iconst 1, 1) := by decide +kernel
theorem dX12_isLate_26 : decode cX12_isLate 26 = .ok (.iadd, 1) := by decide +kernel
theorem dX12_isLate_27 : decode cX12_isLate 27 = .ok (.iaload, 1) := by decide +kernel
theorem dX12_isLate_28 : decode cX12_isLate 28 = .ok (.invokevirtual 170, 3) := by decide +kernel
theorem dX12_isLate_31 : decode cX12_isLate 31 = .ok (.if_icmp .le 7, 3) := by decide +kernel
theorem dX12_isLate_34 : decode cX12_isLate 34 = .ok (.iconst 1, 1) := by decide +kernel
theorem dX12_isLate_35 : decode cX12_isLate 35 = .ok (.goto 4, 3) := by decide +kernel
theorem dX12_isLate_38 : decode cX12_isLate 38 = .ok (.iconst 0, 1) := by decide +kernel
theorem dX12_isLate_39 : decode cX12_isLate 39 = .ok (.ireturn, 1) := by decide +kernel
theorem dX12_isMiser_0 : decode cX12_isMiser 0 = .ok (.aload_n 0, 1) := by decide +kernel
theorem dX12_isMiser_1 : decode cX12_isMiser 1 = .ok (.getfield 25, 3) := by decide +kernel
theorem dX12_isMiser_4 : decode cX12_isMiser 4 = .ok (.iload_n 1, 1) := by decide +kernel
theorem dX12_isMiser_5 : decode cX12_isMiser 5 = .ok (.iaload, 1) := by decide +kernel
theorem dX12_isMiser_6 : decode cX12_isMiser 6 = .ok (.iconst 1, 1) := by decide +kernel
theorem dX12_isMiser_7 : decode cX12_isMiser 7 = .ok (.if_icmp .eq 11, 3) := by decide +kernel
theorem dX12_isMiser_10 : decode cX12_isMiser 10 = .ok (.iload_n 1, 1) := by decide +kernel
theorem dX12_isMiser_11 : decode cX12_isMiser 11 = .ok (.aload_n 0, 1) := by decide +kernel
theorem dX12_isMiser_12 : decode cX12_isMiser 12 = .ok (.getfield 65, 3) := by decide +kernel
theorem dX12_isMiser_15 : decode cX12_isMiser 15 = .ok (.if_icmp .ne 7, 3) := by decide +kernel
theorem dX12_isMiser_18 : decode cX12_isMiser 18 = .ok (.iconst 1, 1) := by decide +kernel
theorem dX12_isMiser_19 : decode cX12_isMiser 19 = .ok (.goto 4, 3) := by decide +kernel
theorem dX12_isMiser_22 : decode cX12_isMiser 22 = .ok (.iconst 0, 1) := by decide +kernel
theorem dX12_isMiser_23 : decode cX12_isMiser 23 = .ok (.ireturn, 1) := by decide +kernel
theorem dX12_isNew_0 : decode cX12_isNew 0 = .ok (.iload_n 2, 1) := by decide +kernel
theorem dX12_isNew_1 : decode cX12_isNew 1 = .ok (.i2l, 1) := by decide +kernel
theorem dX12_isNew_2 : decode cX12_isNew 2 = .ok (.lconst 0, 1) := by decide +kernel
theorem dX12_isNew_3 : decode cX12_isNew 3 = .ok (.ldc2_w 77, 3) := by decide +kernel
theorem dX12_isNew_6 : decode cX12_isNew 6 = .ok (.invokestatic 70, 3) := by decide +kernel
theorem dX12_isNew_9 : decode cX12_isNew 9 = .ok (.ifCond .eq 22, 3) := by decide +kernel
theorem dX12_isNew_12 : decode cX12_isNew 12 = .ok (.iload_n 1, 1) := by decide +kernel
theorem dX12_isNew_13 : decode cX12_isNew 13 = .ok (.iload_n 2, 1) := by decide +kernel
theorem dX12_isNew_14 : decode cX12_isNew 14 = .ok (.if_icmp .eq 17, 3) := by decide +kernel
theorem dX12_isNew_17 : decode cX12_isNew 17 = .ok (.aload_n 0, 1) := by decide +kernel
theorem dX12_isNew_18 : decode cX12_isNew 18 = .ok (.iload_n 1, 1) := by decide +kernel
theorem dX12_isNew_19 : decode cX12_isNew 19 = .ok (.iaload, 1) := by decide +kernel
theorem dX12_isNew_20 : decode cX12_isNew 20 = .ok (.iload_n 2, 1) := by decide +kernel
theorem dX12_isNew_21 : decode cX12_isNew 21 = .ok (.ishr, 1) := by decide +kernel
theorem dX12_isNew_22 : decode cX12_isNew 22 = .ok (.iconst 1, 1) := by decide +kernel
theorem dX12_isNew_23 : decode cX12_isNew 23 = .ok (.iand, 1) := by decide +kernel
theorem dX12_isNew_24 : decode cX12_isNew 24 = .ok (.ifCond .ne 7, 3) := by decide +kernel
theorem dX12_isNew_27 : decode cX12_isNew 27 = .ok (.iconst 1, 1) := by decide +kernel
theorem dX12_isNew_28 : decode cX12_isNew 28 = .ok (.goto 4, 3) := by decide +kernel
theorem dX12_isNew_31 : decode cX12_isNew 31 = .ok (.iconst 0, 1) := by decide +kernel
theorem dX12_isNew_32 : decode cX12_isNew 32 = .ok (.ireturn, 1) := by decide +kernel
theorem dX12_isOwed_0 : decode cX12_isOwed 0 = .ok (.aload_n 0, 1) := by decide +kernel
theorem dX12_isOwed_1 : decode cX12_isOwed 1 = .ok (.getfield 28, 3) := by decide +kernel
theorem dX12_isOwed_4 : decode cX12_isOwed 4 = .ok (.bipush 6, 2) := by decide +kernel
theorem dX12_isOwed_6 : decode cX12_isOwed 6 = .ok (.iload_n 1, 1) := by decide +kernel
theorem dX12_isOwed_7 : decode cX12_isOwed 7 = .ok (.imul, 1) := by decide +kernel
theorem dX12_isOwed_8 : decode cX12_isOwed 8 = .ok (.iconst 5, 1) := by decide +kernel
theorem dX12_isOwed_9 : decode cX12_isOwed 9 = .ok (.iadd, 1) := by decide +kernel
theorem dX12_isOwed_10 : decode cX12_isOwed 10 = .ok (.iaload, 1) := by decide +kernel
theorem dX12_isOwed_11 : decode cX12_isOwed 11 = .ok (.iconst (-1), 1) := by decide +kernel
theorem dX12_isOwed_12 : decode cX12_isOwed 12 = .ok (.if_icmp .ne 7, 3) := by decide +kernel
theorem dX12_isOwed_15 : decode cX12_isOwed 15 = .ok (.iconst 1, 1) := by decide +kernel
theorem dX12_isOwed_16 : decode cX12_isOwed 16 = .ok (.goto 4, 3) := by decide +kernel
theorem dX12_isOwed_19 : decode cX12_isOwed 19 = .ok (.iconst 0, 1) := by decide +kernel
theorem dX12_isOwed_20 : decode cX12_isOwed 20 = .ok (.ireturn, 1) := by decide +kernel
theorem dX12_isPerson_0 : decode cX12_isPerson 0 = .ok (.iload_n 1, 1) := by decide +kernel
theorem dX12_isPerson_1 : decode cX12_isPerson 1 = .ok (.i2l, 1) := by decide +kernel
theorem dX12_isPerson_2 : decode cX12_isPerson 2 = .ok (.lconst 0, 1) := by decide +kernel
theorem dX12_isPerson_3 : decode cX12_isPerson 3 = .ok (.aload_n 0, 1) := by decide +kernel
theorem dX12_isPerson_4 : decode cX12_isPerson 4 = .ok (.getfield 126, 3) := by decide +kernel
theorem dX12_isPerson_7 : decode cX12_isPerson 7 = .ok (.iconst 1, 1) := by decide +kernel
theorem dX12_isPerson_8 : decode cX12_isPerson 8 = .ok (.isub, 1) := by decide +kernel
theorem dX12_isPerson_9 : decode cX12_isPerson 9 = .ok (.i2l, 1) := by decide +kernel
theorem dX12_isPerson_10 : decode cX12_isPerson 10 = .ok (.invokestatic 70, 3) := by decide +kernel
theorem dX12_isPerson_13 : decode cX12_isPerson 13 = .ok (.ireturn, 1) := by decide +kernel
theorem dX12_know_0 : decode cX12_know 0 = .ok (.aload_n 0, 1) := by decide +kernel
theorem dX12_know_1 : decode cX12_know 1 = .ok (.getfield 141, 3) := by decide +kernel
theorem dX12_know_4 : decode cX12_know 4 = .ok (.iconst 1, 1) := by decide +kernel
theorem dX12_know_5 : decode cX12_know 5 = .ok (.if_icmp .ne 39, 3) := by decide +kernel
theorem dX12_know_8 : decode cX12_know 8 = .ok (.iload_n 1, 1) := by decide +kernel
theorem dX12_know_9 : decode cX12_know 9 = .ok (.aload_n 0, 1) := by decide +kernel
theorem dX12_know_10 : decode cX12_know 10 = .ok (.getfield 144, 3) := by decide +kernel
theorem dX12_know_13 : decode cX12_know 13 = .ok (.if_icmp .ne 11, 3) := by decide +kernel
theorem dX12_know_16 : decode cX12_know 16 = .ok (.iload_n 2, 1) := by decide +kernel
theorem dX12_know_17 : decode cX12_know 17 = .ok (.aload_n 0, 1) := by decide +kernel
theorem dX12_know_18 : decode cX12_know 18 = .ok (.getfield 147, 3) := by decide +kernel
theorem dX12_know_21 : decode cX12_know 21 = .ok (.if_icmp .eq 19, 3) := by decide +kernel
theorem dX12_know_24 : decode cX12_know 24 = .ok (.iload_n 1, 1) := by decide +kernel
theorem dX12_know_25 : decode cX12_know 25 = .ok (.aload_n 0, 1) := by decide +kernel
theorem dX12_know_26 : decode cX12_know 26 = .ok (.getfield 147, 3) := by decide +kernel
theorem dX12_know_29 : decode cX12_know 29 = .ok (.if_icmp .ne 15, 3) := by decide +kernel
theorem dX12_know_32 : decode cX12_know 32 = .ok (.iload_n 2, 1) := by decide +kernel
theorem dX12_know_33 : decode cX12_know 33 = .ok (.aload_n 0, 1) := by decide +kernel
theorem dX12_know_34 : decode cX12_know 34 = .ok (.getfield 144, 3) := by decide +kernel
theorem dX12_know_37 : decode cX12_know 37 = .ok (.if_icmp .ne 7, 3) := by decide +kernel
theorem dX12_know_40 : decode cX12_know 40 = .ok (.iconst 1, 1) := by decide +kernel
theorem dX12_know_41 : decode cX12_know 41 = .ok (.goto 4, 3) := by decide +kernel
theorem dX12_know_44 : decode cX12_know 44 = .ok (.iconst 0, 1) := by decide +kernel
theorem dX12_know_45 : decode cX12_know 45 = .ok (.istore_n 3, 1) := by decide +kernel
theorem dX12_know_46 : decode cX12_know 46 = .ok (.aload_n 0, 1) := by decide +kernel
theorem dX12_know_47 : decode cX12_know 47 = .ok (.iload_n 1, 1) := by decide +kernel
theorem dX12_know_48 : decode cX12_know 48 = .ok (.iload_n 2, 1) := by decide +kernel
theorem dX12_know_49 : decode cX12_know 49 = .ok (.invokevirtual 150, 3) := by decide +kernel
theorem dX12_know_52 : decode cX12_know 52 = .ok (.ifCond .ne 41, 3) := by decide +kernel
theorem dX12_know_55 : decode cX12_know 55 = .ok (.aload_n 0, 1) := by decide +kernel
theorem dX12_know_56 : decode cX12_know 56 = .ok (.getfield 22, 3) := by decide +kernel
theorem dX12_know_59 : decode cX12_know 59 = .ok (.iload_n 1, 1) := by decide +kernel
theorem dX12_know_60 : decode cX12_know 60 = .ok (.iaload, 1) := by decide +kernel
theorem dX12_know_61 : decode cX12_know 61 = .ok (.iload_n 2, 1) := by decide +kernel
theorem dX12_know_62 : decode cX12_know 62 = .ok (.ishr, 1) := by decide +kernel
theorem dX12_know_63 : decode cX12_know 63 = .ok (.iconst 1, 1) := by decide +kernel
theorem dX12_know_64 : decode cX12_know 64 = .ok (.iand, 1) := by decide +kernel
theorem dX12_know_65 : decode cX12_know 65 = .ok (.iconst 1, 1) := by decide +kernel
theorem dX12_know_66 : decode cX12_know 66 = .ok (.if_icmp .eq 27, 3) := by decide +kernel
theorem dX12_know_69 : decode cX12_know 69 = .ok (.aload_n 0, 1) := by decide +kernel
theorem dX12_know_70 : decode cX12_know 70 = .ok (.getfield 25, 3) := by decide +kernel
theorem dX12_know_73 : decode cX12_know 73 = .ok (.iload_n 1, 1) := by decide +kernel
theorem dX12_know_74 : decode cX12_know 74 = .ok (.iaload, 1) := by decide +kernel
theorem dX12_know_75 : decode cX12_know 75 = .ok (.iconst 2, 1) := by decide +kernel
theorem dX12_know_76 : decode cX12_know 76 = .ok (.if_icmp .gt 17, 3) := by decide +kernel
theorem dX12_know_79 : decode cX12_know 79 = .ok (.aload_n 0, 1) := by decide +kernel
theorem dX12_know_80 : decode cX12_know 80 = .ok (.getfield 25, 3) := by decide +kernel
theorem dX12_know_83 : decode cX12_know 83 = .ok (.iload_n 2, 1) := by decide +kernel
theorem dX12_know_84 : decode cX12_know 84 = .ok (.iaload, 1) := by decide +kernel
theorem dX12_know_85 : decode cX12_know 85 = .ok (.iconst 2, 1) := by decide +kernel
theorem dX12_know_86 : decode cX12_know 86 = .ok (.if_icmp .gt 7, 3) := by decide +kernel
theorem dX12_know_89 : decode cX12_know 89 = .ok (.iload_n 3, 1) := by decide +kernel
theorem dX12_know_90 : decode cX12_know 90 = .ok (.ifCond .eq 7, 3) := by decide +kernel
theorem dX12_know_93 : decode cX12_know 93 = .ok (.iconst 1, 1) := by decide +kernel
theorem dX12_know_94 : decode cX12_know 94 = .ok (.goto 4, 3) := by decide +kernel
theorem dX12_know_97 : decode cX12_know 97 = .ok (.iconst 0, 1) := by decide +kernel
theorem dX12_know_98 : decode cX12_know 98 = .ok (.ireturn, 1) := by decide +kernel
theorem dX12_lacks_0 : decode cX12_lacks 0 = .ok (.aload_n 0, 1) := by decide +kernel
theorem dX12_lacks_1 : decode cX12_lacks 1 = .ok (.getfield 114, 3) := by decide +kernel
theorem dX12_lacks_4 : decode cX12_lacks 4 = .ok (.ifCond .ne 7, 3) := by decide +kernel
theorem dX12_lacks_7 : decode cX12_lacks 7 = .ok (.iconst 1, 1) := by decide +kernel
theorem dX12_lacks_8 : decode cX12_lacks 8 = .ok (.goto 4, 3) := by decide +kernel
theorem dX12_lacks_11 : decode cX12_lacks 11 = .ok (.iconst 0, 1) := by decide +kernel
theorem dX12_lacks_12 : decode cX12_lacks 12 = .ok (.ireturn, 1) := by decide +kernel
theorem dX12_law_0 : decode cX12_law 0 = .ok (.aload_n 0, 1) := by decide +kernel
theorem dX12_law_1 : decode cX12_law 1 = .ok (.invokevirtual 110, 3) := by decide +kernel
theorem dX12_law_4 : decode cX12_law 4 = .ok (.aload_n 0, 1) := by decide +kernel
theorem dX12_law_5 : decode cX12_law 5 = .ok (.getfield 74, 3) := by decide +kernel
theorem dX12_law_8 : decode cX12_law 8 = .ok (.if_icmp .lt 12, 3) := by decide +kernel
theorem dX12_law_11 : decode cX12_law 11 = .ok (.aload_n 0, 1) := by decide +kernel
theorem dX12_law_12 : decode cX12_law 12 = .ok (.getfield 92, 3) := by decide +kernel
theorem dX12_law_15 : decode cX12_law 15 = .ok (.bipush 8, 2) := by decide +kernel
theorem dX12_law_17 : decode cX12_law 17 = .ok (.if_icmp .eq 6, 3) := by decide +kernel
theorem dX12_law_20 : decode cX12_law 20 = .ok (.bipush (-103), 2) := by decide +kernel
theorem dX12_law_22 : decode cX12_law 22 = .ok (.ireturn, 1) := by decide +kernel
theorem dX12_law_23 : decode cX12_law 23 = .ok (.iconst 0, 1) := by decide +kernel
theorem dX12_law_24 : decode cX12_law 24 = .ok (.istore_n 1, 1) := by decide +kernel
theorem dX12_law_25 : decode cX12_law 25 = .ok (.iload_n 1, 1) := by decide +kernel
theorem dX12_law_26 : decode cX12_law 26 = .ok (.bipush 6, 2) := by decide +kernel
theorem dX12_law_28 : decode cX12_law 28 = .ok (.if_icmp .ge 33, 3) := by decide +kernel
theorem dX12_law_31 : decode cX12_law 31 = .ok (.aload_n 0, 1) := by decide +kernel
theorem dX12_law_32 : decode cX12_law 32 = .ok (.getfield 19, 3) := by decide +kernel
theorem dX12_law_35 : decode cX12_law 35 = .ok (.iload_n 1, 1) := by decide +kernel
theorem dX12_law_36 : decode cX12_law 36 = .ok (.aload_n 0, 1) := by decide +kernel
theorem dX12_law_37 : decode cX12_law 37 = .ok (.getfield 13, 3) := by decide +kernel
theorem dX12_law_40 : decode cX12_law 40 = .ok (.iload_n 1, 1) := by decide +kernel
theorem dX12_law_41 : decode cX12_law 41 = .ok (.iaload, 1) := by decide +kernel
theorem dX12_law_42 : decode cX12_law 42 = .ok (.iastore, 1) := by decide +kernel
theorem dX12_law_43 : decode cX12_law 43 = .ok (.aload_n 0, 1) := by decide +kernel
theorem dX12_law_44 : decode cX12_law 44 = .ok (.getfield 22, 3) := by decide +kernel
theorem dX12_law_47 : decode cX12_law 47 = .ok (.iload_n 1, 1) := by decide +kernel
theorem dX12_law_48 : decode cX12_law 48 = .ok (.aload_n 0, 1) := by decide +kernel
theorem dX12_law_49 : decode cX12_law 49 = .ok (.getfield 16, 3) := by decide +kernel
theorem dX12_law_52 : decode cX12_law 52 = .ok (.iload_n 1, 1) := by decide +kernel
theorem dX12_law_53 : decode cX12_law 53 = .ok (.iaload, 1) := by decide +kernel
theorem dX12_law_54 : decode cX12_law 54 = .ok (.iastore, 1) := by decide +kernel
theorem dX12_law_55 : decode cX12_law 55 = .ok (.iinc 1 1, 3) := by decide +kernel
theorem dX12_law_58 : decode cX12_law 58 = .ok (.goto (-33), 3) := by decide +kernel
theorem dX12_law_61 : decode cX12_law 61 = .ok (.aload_n 0, 1) := by decide +kernel
theorem dX12_law_62 : decode cX12_law 62 = .ok (.aload_n 0, 1) := by decide +kernel
theorem dX12_law_63 : decode cX12_law 63 = .ok (.getfield 102, 3) := by decide +kernel
theorem dX12_law_66 : decode cX12_law 66 = .ok (.putfield 114, 3) := by decide +kernel
theorem dX12_law_69 : decode cX12_law 69 = .ok (.aload_n 0, 1) := by decide +kernel
theorem dX12_law_70 : decode cX12_law 70 = .ok (.aload_n 0, 1) := by decide +kernel
theorem dX12_law_71 : decode cX12_law 71 = .ok (.getfield 86, 3) := by decide +kernel
theorem dX12_law_74 : decode cX12_law 74 = .ok (.putfield 117, 3) := by decide +kernel
theorem dX12_law_77 : decode cX12_law 77 = .ok (.aload_n 0, 1) := by decide +kernel
theorem dX12_law_78 : decode cX12_law 78 = .ok (.aload_n 0, 1) := by decide +kernel
theorem dX12_law_79 : decode cX12_law 79 = .ok (.getfield 89, 3) := by decide +kernel
theorem dX12_law_82 : decode cX12_law 82 = .ok (.putfield 120, 3) := by decide +kernel
theorem dX12_law_85 : decode cX12_law 85 = .ok (.aload_n 0, 1) := by decide +kernel
theorem dX12_law_86 : decode cX12_law 86 = .ok (.iconst 0, 1) := by decide +kernel
theorem dX12_law_87 : decode cX12_law 87 = .ok (.putfield 123, 3) := by decide +kernel
theorem dX12_law_90 : decode cX12_law 90 = .ok (.aload_n 0, 1) := by decide +kernel
theorem dX12_law_91 : decode cX12_law 91 = .ok (.iconst 0, 1) := by decide +kernel
theorem dX12_law_92 : decode cX12_law 92 = .ok (.putfield 126, 3) := by decide +kernel
theorem dX12_law_95 : decode cX12_law 95 = .ok (.aload_n 0, 1) := by decide +kernel
theorem dX12_law_96 : decode cX12_law 96 = .ok (.iconst 0, 1) := by decide +kernel
theorem dX12_law_97 : decode cX12_law 97 = .ok (.putfield 129, 3) := by decide +kernel
theorem dX12_law_100 : decode cX12_law 100 = .ok (.aload_n 0, 1) := by decide +kernel
theorem dX12_law_101 : decode cX12_law 101 = .ok (.iconst 0, 1) := by decide +kernel
theorem dX12_law_102 : decode cX12_law 102 = .ok (.putfield 132, 3) := by decide +kernel
theorem dX12_law_105 : decode cX12_law 105 = .ok (.aload_n 0, 1) := by decide +kernel
theorem dX12_law_106 : decode cX12_law 106 = .ok (.dup, 1) := by decide +kernel
theorem dX12_law_107 : decode cX12_law 107 = .ok (.getfield 135, 3) := by decide +kernel
theorem dX12_law_110 : decode cX12_law 110 = .ok (.iconst 1, 1) := by decide +kernel
theorem dX12_law_111 : decode cX12_law 111 = .ok (.iadd, 1) := by decide +kernel
theorem dX12_law_112 : decode cX12_law 112 = .ok (.putfield 135, 3) := by decide +kernel
theorem dX12_law_115 : decode cX12_law 115 = .ok (.aload_n 0, 1) := by decide +kernel
theorem dX12_law_116 : decode cX12_law 116 = .ok (.iconst 0, 1) := by decide +kernel
theorem dX12_law_117 : decode cX12_law 117 = .ok (.putfield 74, 3) := by decide +kernel
theorem dX12_law_120 : decode cX12_law 120 = .ok (.aload_n 0, 1) := by decide +kernel
theorem dX12_law_121 : decode cX12_law 121 = .ok (.getfield 120, 3) := by decide +kernel
theorem dX12_law_124 : decode cX12_law 124 = .ok (.ireturn, 1) := by decide +kernel
theorem dX12_lay_0 : decode cX12_lay 0 = .ok (.bipush 6, 2) := by decide +kernel
theorem dX12_lay_2 : decode cX12_lay 2 = .ok (.aload_n 0, 1) := by decide +kernel
theorem dX12_lay_3 : decode cX12_lay 3 = .ok (.getfield 129, 3) := by decide +kernel
theorem dX12_lay_6 : decode cX12_lay 6 = .ok (.imul, 1) := by decide +kernel
theorem dX12_lay_7 : decode cX12_lay 7 = .ok (.istore 5, 2) := by decide +kernel
theorem dX12_lay_9 : decode cX12_lay 9 = .ok (.aload_n 0, 1) := by decide +kernel
theorem dX12_lay_10 : decode cX12_lay 10 = .ok (.getfield 28, 3) := by decide +kernel
theorem dX12_lay_13 : decode cX12_lay 13 = .ok (.iload 5, 2) := by decide +kernel
theorem dX12_lay_15 : decode cX12_lay 15 = .ok (.iload_n 1, 1) := by decide +kernel
theorem dX12_lay_16 : decode cX12_lay 16 = .ok (.iastore, 1) := by decide +kernel
theorem dX12_lay_17 : decode cX12_lay 17 = .ok (.aload_n 0, 1) := by decide +kernel
theorem dX12_lay_18 : decode cX12_lay 18 = .ok (.getfield 28, 3) := by decide +kernel
theorem dX12_lay_21 : decode cX12_lay 21 = .ok (.iload 5, 2) := by decide +kernel
theorem dX12_lay_23 : decode cX12_lay 23 = .ok (.iconst 1, 1) := by decide +kernel
theorem dX12_lay_24 : decode cX12_lay 24 = .ok (.iadd, 1) := by decide +kernel
theorem dX12_lay_25 : decode cX12_lay 25 = .ok (.iload_n 2, 1) := by decide +kernel
theorem dX12_lay_26 : decode cX12_lay 26 = .ok (.iastore, 1) := by decide +kernel
theorem dX12_lay_27 : decode cX12_lay 27 = .ok (.aload_n 0, 1) := by decide +kernel
theorem dX12_lay_28 : decode cX12_lay 28 = .ok (.getfield 28, 3) := by decide +kernel
theorem dX12_lay_31 : decode cX12_lay 31 = .ok (.iload 5, 2) := by decide +kernel
theorem dX12_lay_33 : decode cX12_lay 33 = .ok (.iconst 2, 1) := by decide +kernel
theorem dX12_lay_34 : decode cX12_lay 34 = .ok (.iadd, 1) := by decide +kernel
theorem dX12_lay_35 : decode cX12_lay 35 = .ok (.iload_n 3, 1) := by decide +kernel
theorem dX12_lay_36 : decode cX12_lay 36 = .ok (.iastore, 1) := by decide +kernel
theorem dX12_lay_37 : decode cX12_lay 37 = .ok (.aload_n 0, 1) := by decide +kernel
theorem dX12_lay_38 : decode cX12_lay 38 = .ok (.getfield 28, 3) := by decide +kernel
theorem dX12_lay_41 : decode cX12_lay 41 = .ok (.iload 5, 2) := by decide +kernel
theorem dX12_lay_43 : decode cX12_lay 43 = .ok (.iconst 3, 1) := by decide +kernel
theorem dX12_lay_44 : decode cX12_lay 44 = .ok (.iadd, 1) := by decide +kernel
theorem dX12_lay_45 : decode cX12_lay 45 = .ok (.aload_n 0, 1) := by decide +kernel
theorem dX12_lay_46 : decode cX12_lay 46 = .ok (.getfield 123, 3) := by decide +kernel
theorem dX12_lay_49 : decode cX12_lay 49 = .ok (.iastore, 1) := by decide +kernel
theorem dX12_lay_50 : decode cX12_lay 50 = .ok (.aload_n 0, 1) := by decide +kernel
theorem dX12_lay_51 : decode cX12_lay 51 = .ok (.getfield 28, 3) := by decide +kernel
theorem dX12_lay_54 : decode cX12_lay 54 = .ok (.iload 5, 2) := by decide +kernel
theorem dX12_lay_56 : decode cX12_lay 56 = .ok (.iconst 4, 1) := by decide +kernel
theorem dX12_lay_57 : decode cX12_lay 57 = .ok (.iadd, 1) := by decide +kernel
theorem dX12_lay_58 : decode cX12_lay 58 = .ok (.iload 4, 2) := by decide +kernel
