theorem dX12_lay_60 : decode cX12_lay 60 = .ok (.iastore, 1) := by decide +kernel
theorem dX12_lay_61 : decode cX12_lay 61 = .ok (.aload_n 0, 1) := by decide +kernel
theorem dX12_lay_62 : decode cX12_lay 62 = .ok (.getfield 28, 3) := by decide +kernel
theorem dX12_lay_65 : decode cX12_lay 65 = .ok (.iload 5, 2) := by decide +kernel
theorem dX12_lay_67 : decode cX12_lay 67 = .ok (.iconst 5, 1) := by decide +kernel
theorem dX12_lay_68 : decode cX12_lay 68 = .ok (.iadd, 1) := by decide +kernel
theorem dX12_lay_69 : decode cX12_lay 69 = .ok (.iconst (-1), 1) := by decide +kernel
theorem dX12_lay_70 : decode cX12_lay 70 = .ok (.iastore, 1) := by decide +kernel
theorem dX12_lay_71 : decode cX12_lay 71 = .ok (.iload 4, 2) := by decide +kernel
theorem dX12_lay_73 : decode cX12_lay 73 = .ok (.iconst (-1), 1) := by decide +kernel
theorem dX12_lay_74 : decode cX12_lay 74 = .ok (.if_icmp .eq 19, 3) := by decide +kernel
theorem dX12_lay_77 : decode cX12_lay 77 = .ok (.aload_n 0, 1) := by decide +kernel
theorem dX12_lay_78 : decode cX12_lay 78 = .ok (.getfield 28, 3) := by decide +kernel
theorem dX12_lay_81 : decode cX12_lay 81 = .ok (.bipush 6, 2) := by decide +kernel
theorem dX12_lay_83 : decode cX12_lay 83 = .ok (.iload 4, 2) := by decide +kernel
theorem dX12_lay_85 : decode cX12_lay 85 = .ok (.imul, 1) := by decide +kernel
theorem dX12_lay_86 : decode cX12_lay 86 = .ok (.iconst 5, 1) := by decide +kernel
theorem dX12_lay_87 : decode cX12_lay 87 = .ok (.iadd, 1) := by decide +kernel
theorem dX12_lay_88 : decode cX12_lay 88 = .ok (.aload_n 0, 1) := by decide +kernel
theorem dX12_lay_89 : decode cX12_lay 89 = .ok (.getfield 129, 3) := by decide +kernel
theorem dX12_lay_92 : decode cX12_lay 92 = .ok (.iastore, 1) := by decide +kernel
theorem dX12_lay_93 : decode cX12_lay 93 = .ok (.aload_n 0, 1) := by decide +kernel
theorem dX12_lay_94 : decode cX12_lay 94 = .ok (.dup, 1) := by decide +kernel
theorem dX12_lay_95 : decode cX12_lay 95 = .ok (.getfield 129, 3) := by decide +kernel
theorem dX12_lay_98 : decode cX12_lay 98 = .ok (.iconst 1, 1) := by decide +kernel
theorem dX12_lay_99 : decode cX12_lay 99 = .ok (.iadd, 1) := by decide +kernel
theorem dX12_lay_100 : decode cX12_lay 100 = .ok (.putfield 129, 3) := by decide +kernel
theorem dX12_lay_103 : decode cX12_lay 103 = .ok (.return_, 1) := by decide +kernel
theorem dX12_layFits_0 : decode cX12_layFits 0 = .ok (.iconst 0, 1) := by decide +kernel
theorem dX12_layFits_1 : decode cX12_layFits 1 = .ok (.istore_n 1, 1) := by decide +kernel
theorem dX12_layFits_2 : decode cX12_layFits 2 = .ok (.iload_n 1, 1) := by decide +kernel
theorem dX12_layFits_3 : decode cX12_layFits 3 = .ok (.bipush 7, 2) := by decide +kernel
theorem dX12_layFits_5 : decode cX12_layFits 5 = .ok (.if_icmp .ge 23, 3) := by decide +kernel
theorem dX12_layFits_8 : decode cX12_layFits 8 = .ok (.aload_n 0, 1) := by decide +kernel
theorem dX12_layFits_9 : decode cX12_layFits 9 = .ok (.getfield 49, 3) := by decide +kernel
theorem dX12_layFits_12 : decode cX12_layFits 12 = .ok (.iload_n 1, 1) := by decide +kernel
theorem dX12_layFits_13 : decode cX12_layFits 13 = .ok (.iconst 0, 1) := by decide +kernel
theorem dX12_layFits_14 : decode cX12_layFits 14 = .ok (.iastore, 1) := by decide +kernel
theorem dX12_layFits_15 : decode cX12_layFits 15 = .ok (.aload_n 0, 1) := by decide +kernel
theorem dX12_layFits_16 : decode cX12_layFits 16 = .ok (.getfield 46, 3) := by decide +kernel
theorem dX12_layFits_19 : decode cX12_layFits 19 = .ok (.iload_n 1, 1) := by decide +kernel
theorem dX12_layFits_20 : decode cX12_layFits 20 = .ok (.iconst (-1), 1) := by decide +kernel
theorem dX12_layFits_21 : decode cX12_layFits 21 = .ok (.iastore, 1) := by decide +kernel
theorem dX12_layFits_22 : decode cX12_layFits 22 = .ok (.iinc 1 1, 3) := by decide +kernel
theorem dX12_layFits_25 : decode cX12_layFits 25 = .ok (.goto (-23), 3) := by decide +kernel
theorem dX12_layFits_28 : decode cX12_layFits 28 = .ok (.aload_n 0, 1) := by decide +kernel
theorem dX12_layFits_29 : decode cX12_layFits 29 = .ok (.getfield 132, 3) := by decide +kernel
theorem dX12_layFits_32 : decode cX12_layFits 32 = .ok (.ifCond .ne 5, 3) := by decide +kernel
theorem dX12_layFits_35 : decode cX12_layFits 35 = .ok (.iconst 1, 1) := by decide +kernel
theorem dX12_layFits_36 : decode cX12_layFits 36 = .ok (.ireturn, 1) := by decide +kernel
theorem dX12_layFits_37 : decode cX12_layFits 37 = .ok (.iconst 0, 1) := by decide +kernel
theorem dX12_layFits_38 : decode cX12_layFits 38 = .ok (.istore_n 1, 1) := by decide +kernel
theorem dX12_layFits_39 : decode cX12_layFits 39 = .ok (.iconst 0, 1) := by decide +kernel
theorem dX12_layFits_40 : decode cX12_layFits 40 = .ok (.istore_n 2, 1) := by decide +kernel
theorem dX12_layFits_41 : decode cX12_layFits 41 = .ok (.iload_n 2, 1) := by decide +kernel
theorem dX12_layFits_42 : decode cX12_layFits 42 = .ok (.ifCond .lt 108, 3) := by decide +kernel
theorem dX12_layFits_45 : decode cX12_layFits 45 = .ok (.aload_n 0, 1) := by decide +kernel
theorem dX12_layFits_46 : decode cX12_layFits 46 = .ok (.getfield 46, 3) := by decide +kernel
theorem dX12_layFits_49 : decode cX12_layFits 49 = .ok (.iload_n 2, 1) := by decide +kernel
theorem dX12_layFits_50 : decode cX12_layFits 50 = .ok (.dup2, 1) := by decide +kernel
theorem dX12_layFits_51 : decode cX12_layFits 51 = .ok (.iaload, 1) := by decide +kernel
theorem dX12_layFits_52 : decode cX12_layFits 52 = .ok (.iconst 1, 1) := by decide +kernel
theorem dX12_layFits_53 : decode cX12_layFits 53 = .ok (.iadd, 1) := by decide +kernel
theorem dX12_layFits_54 : decode cX12_layFits 54 = .ok (.iastore, 1) := by decide +kernel
theorem dX12_layFits_55 : decode cX12_layFits 55 = .ok (.aload_n 0, 1) := by decide +kernel
theorem dX12_layFits_56 : decode cX12_layFits 56 = .ok (.getfield 46, 3) := by decide +kernel
theorem dX12_layFits_59 : decode cX12_layFits 59 = .ok (.iload_n 2, 1) := by decide +kernel
theorem dX12_layFits_60 : decode cX12_layFits 60 = .ok (.iaload, 1) := by decide +kernel
theorem dX12_layFits_61 : decode cX12_layFits 61 = .ok (.aload_n 0, 1) := by decide +kernel
theorem dX12_layFits_62 : decode cX12_layFits 62 = .ok (.getfield 126, 3) := by decide +kernel
theorem dX12_layFits_65 : decode cX12_layFits 65 = .ok (.if_icmp .lt 16, 3) := by decide +kernel
theorem dX12_layFits_68 : decode cX12_layFits 68 = .ok (.aload_n 0, 1) := by decide +kernel
theorem dX12_layFits_69 : decode cX12_layFits 69 = .ok (.getfield 46, 3) := by decide +kernel
theorem dX12_layFits_72 : decode cX12_layFits 72 = .ok (.iload_n 2, 1) := by decide +kernel
theorem dX12_layFits_73 : decode cX12_layFits 73 = .ok (.iconst (-1), 1) := by decide +kernel
theorem dX12_layFits_74 : decode cX12_layFits 74 = .ok (.iastore, 1) := by decide +kernel
theorem dX12_layFits_75 : decode cX12_layFits 75 = .ok (.iinc 2 (-1), 3) := by decide +kernel
theorem dX12_layFits_78 : decode cX12_layFits 78 = .ok (.goto (-37), 3) := by decide +kernel
theorem dX12_layFits_81 : decode cX12_layFits 81 = .ok (.aload_n 0, 1) := by decide +kernel
theorem dX12_layFits_82 : decode cX12_layFits 82 = .ok (.iload_n 2, 1) := by decide +kernel
theorem dX12_layFits_83 : decode cX12_layFits 83 = .ok (.aload_n 0, 1) := by decide +kernel
theorem dX12_layFits_84 : decode cX12_layFits 84 = .ok (.getfield 46, 3) := by decide +kernel
theorem dX12_layFits_87 : decode cX12_layFits 87 = .ok (.iload_n 2, 1) := by decide +kernel
theorem dX12_layFits_88 : decode cX12_layFits 88 = .ok (.iaload, 1) := by decide +kernel
theorem dX12_layFits_89 : decode cX12_layFits 89 = .ok (.invokevirtual 241, 3) := by decide +kernel
theorem dX12_layFits_92 : decode cX12_layFits 92 = .ok (.ifCond .eq (-51), 3) := by decide +kernel
theorem dX12_layFits_95 : decode cX12_layFits 95 = .ok (.iload_n 2, 1) := by decide +kernel
theorem dX12_layFits_96 : decode cX12_layFits 96 = .ok (.aload_n 0, 1) := by decide +kernel
theorem dX12_layFits_97 : decode cX12_layFits 97 = .ok (.getfield 132, 3) := by decide +kernel
theorem dX12_layFits_100 : decode cX12_layFits 100 = .ok (.iconst 1, 1) := by decide +kernel
theorem dX12_layFits_101 : decode cX12_layFits 101 = .ok (.isub, 1) := by decide +kernel
theorem dX12_layFits_102 : decode cX12_layFits 102 = .ok (.if_icmp .ne 42, 3) := by decide +kernel
theorem dX12_layFits_105 : decode cX12_layFits 105 = .ok (.iinc 1 1, 3) := by decide +kernel
theorem dX12_layFits_108 : decode cX12_layFits 108 = .ok (.iconst 0, 1) := by decide +kernel
theorem dX12_layFits_109 : decode cX12_layFits 109 = .ok (.istore_n 3, 1) := by decide +kernel
theorem dX12_layFits_110 : decode cX12_layFits 110 = .ok (.iload_n 3, 1) := by decide +kernel
theorem dX12_layFits_111 : decode cX12_layFits 111 = .ok (.aload_n 0, 1) := by decide +kernel
theorem dX12_layFits_112 : decode cX12_layFits 112 = .ok (.getfield 132, 3) := by decide +kernel
theorem dX12_layFits_115 : decode cX12_layFits 115 = .ok (.if_icmp .ge 26, 3) := by decide +kernel
theorem dX12_layFits_118 : decode cX12_layFits 118 = .ok (.aload_n 0, 1) := by decide +kernel
theorem dX12_layFits_119 : decode cX12_layFits 119 = .ok (.getfield 49, 3) := by decide +kernel
theorem dX12_layFits_122 : decode cX12_layFits 122 = .ok (.iload_n 3, 1) := by decide +kernel
theorem dX12_layFits_123 : decode cX12_layFits 123 = .ok (.dup2, 1) := by decide +kernel
theorem dX12_layFits_124 : decode cX12_layFits 124 = .ok (.iaload, 1) := by decide +kernel
theorem dX12_layFits_125 : decode cX12_layFits 125 = .ok (.iconst 1, 1) := by decide +kernel
theorem dX12_layFits_126 : decode cX12_layFits 126 = .ok (.aload_n 0, 1) := by decide +kernel
theorem dX12_layFits_127 : decode cX12_layFits 127 = .ok (.getfield 46, 3) := by decide +kernel
theorem dX12_layFits_130 : decode cX12_layFits 130 = .ok (.iload_n 3, 1) := by decide +kernel
theorem dX12_layFits_131 : decode cX12_layFits 131 = .ok (.iaload, 1) := by decide +kernel
theorem dX12_layFits_132 : decode cX12_layFits 132 = .ok (.ishl, 1) := by decide +kernel
theorem dX12_layFits_133 : decode cX12_layFits 133 = .ok (.ior, 1) := by decide +kernel
theorem dX12_layFits_134 : decode cX12_layFits 134 = .ok (.iastore, 1) := by decide +kernel
theorem dX12_layFits_135 : decode cX12_layFits 135 = .ok (.iinc 3 1, 3) := by decide +kernel
theorem dX12_layFits_138 : decode cX12_layFits 138 = .ok (.goto (-28), 3) := by decide +kernel
theorem dX12_layFits_141 : decode cX12_layFits 141 = .ok (.goto (-100), 3) := by decide +kernel
theorem dX12_layFits_144 : decode cX12_layFits 144 = .ok (.iinc 2 1, 3) := by decide +kernel
theorem dX12_layFits_147 : decode cX12_layFits 147 = .ok (.goto (-106), 3) := by decide +kernel
theorem dX12_layFits_150 : decode cX12_layFits 150 = .ok (.iload_n 1, 1) := by decide +kernel
theorem dX12_layFits_151 : decode cX12_layFits 151 = .ok (.ireturn, 1) := by decide +kernel
theorem dX12_layWays_0 : decode cX12_layWays 0 = .ok (.iconst 0, 1) := by decide +kernel
theorem dX12_layWays_1 : decode cX12_layWays 1 = .ok (.istore_n 2, 1) := by decide +kernel
theorem dX12_layWays_2 : decode cX12_layWays 2 = .ok (.iload_n 2, 1) := by decide +kernel
theorem dX12_layWays_3 : decode cX12_layWays 3 = .ok (.bipush 36, 2) := by decide +kernel
theorem dX12_layWays_5 : decode cX12_layWays 5 = .ok (.if_icmp .ge 16, 3) := by decide +kernel
theorem dX12_layWays_8 : decode cX12_layWays 8 = .ok (.aload_n 0, 1) := by decide +kernel
theorem dX12_layWays_9 : decode cX12_layWays 9 = .ok (.getfield 31, 3) := by decide +kernel
theorem dX12_layWays_12 : decode cX12_layWays 12 = .ok (.iload_n 2, 1) := by decide +kernel
theorem dX12_layWays_13 : decode cX12_layWays 13 = .ok (.iconst (-1), 1) := by decide +kernel
theorem dX12_layWays_14 : decode cX12_layWays 14 = .ok (.iastore, 1) := by decide +kernel
theorem dX12_layWays_15 : decode cX12_layWays 15 = .ok (.iinc 2 1, 3) := by decide +kernel
theorem dX12_layWays_18 : decode cX12_layWays 18 = .ok (.goto (-16), 3) := by decide +kernel
theorem dX12_layWays_21 : decode cX12_layWays 21 = .ok (.iconst 0, 1) := by decide +kernel
theorem dX12_layWays_22 : decode cX12_layWays 22 = .ok (.istore_n 2, 1) := by decide +kernel
theorem dX12_layWays_23 : decode cX12_layWays 23 = .ok (.iload_n 2, 1) := by decide +kernel
theorem dX12_layWays_24 : decode cX12_layWays 24 = .ok (.aload_n 0, 1) := by decide +kernel
theorem dX12_layWays_25 : decode cX12_layWays 25 = .ok (.getfield 126, 3) := by decide +kernel
theorem dX12_layWays_28 : decode cX12_layWays 28 = .ok (.if_icmp .ge 81, 3) := by decide +kernel
theorem dX12_layWays_31 : decode cX12_layWays 31 = .ok (.aload_n 0, 1) := by decide +kernel
theorem dX12_layWays_32 : decode cX12_layWays 32 = .ok (.aload_n 0, 1) := by decide +kernel
theorem dX12_layWays_33 : decode cX12_layWays 33 = .ok (.getfield 28, 3) := by decide +kernel
theorem dX12_layWays_36 : decode cX12_layWays 36 = .ok (.bipush 6, 2) := by decide +kernel
theorem dX12_layWays_38 : decode cX12_layWays 38 = .ok (.iload_n 1, 1) := by decide +kernel
theorem dX12_layWays_39 : decode cX12_layWays 39 = .ok (.imul, 1) := by decide +kernel
theorem dX12_layWays_40 : decode cX12_layWays 40 = .ok (.iaload, 1) := by decide +kernel
theorem dX12_layWays_41 : decode cX12_layWays 41 = .ok (.aload_n 0, 1) := by decide +kernel
theorem dX12_layWays_42 : decode cX12_layWays 42 = .ok (.getfield 28, 3) := by decide +kernel
theorem dX12_layWays_45 : decode cX12_layWays 45 = .ok (.bipush 6, 2) := by decide +kernel
theorem dX12_layWays_47 : decode cX12_layWays 47 = .ok (.iload_n 1, 1) := by decide +kernel
theorem dX12_layWays_48 : decode cX12_layWays 48 = .ok (.imul, 1) := by decide +kernel
theorem dX12_layWays_49 : decode cX12_layWays 49 = .ok (.iconst 1, 1) := by decide +kernel
theorem dX12_layWays_50 : decode cX12_layWays 50 = .ok (.iadd, 1) := by decide +kernel
theorem dX12_layWays_51 : decode cX12_layWays 51 = .ok (.iaload, 1) := by decide +kernel
theorem dX12_layWays_52 : decode cX12_layWays 52 = .ok (.iload_n 2, 1) := by decide +kernel
theorem dX12_layWays_53 : decode cX12_layWays 53 = .ok (.invokevirtual 189, 3) := by decide +kernel
theorem dX12_layWays_56 : decode cX12_layWays 56 = .ok (.ifCond .eq 47, 3) := by decide +kernel
theorem dX12_layWays_59 : decode cX12_layWays 59 = .ok (.aload_n 0, 1) := by decide +kernel
theorem dX12_layWays_60 : decode cX12_layWays 60 = .ok (.getfield 31, 3) := by decide +kernel
theorem dX12_layWays_63 : decode cX12_layWays 63 = .ok (.bipush 6, 2) := by decide +kernel
theorem dX12_layWays_65 : decode cX12_layWays 65 = .ok (.aload_n 0, 1) := by decide +kernel
theorem dX12_layWays_66 : decode cX12_layWays 66 = .ok (.getfield 28, 3) := by decide +kernel
theorem dX12_layWays_69 : decode cX12_layWays 69 = .ok (.bipush 6, 2) := by decide +kernel
theorem dX12_layWays_71 : decode cX12_layWays 71 = .ok (.iload_n 1, 1) := by decide +kernel
theorem dX12_layWays_72 : decode cX12_layWays 72 = .ok (.imul, 1) := by decide +kernel
theorem dX12_layWays_73 : decode cX12_layWays 73 = .ok (.iconst 1, 1) := by decide +kernel
theorem dX12_layWays_74 : decode cX12_layWays 74 = .ok (.iadd, 1) := by decide +kernel
theorem dX12_layWays_75 : decode cX12_layWays 75 = .ok (.iaload, 1) := by decide +kernel
theorem dX12_layWays_76 : decode cX12_layWays 76 = .ok (.imul, 1) := by decide +kernel
theorem dX12_layWays_77 : decode cX12_layWays 77 = .ok (.iload_n 2, 1) := by decide +kernel
theorem dX12_layWays_78 : decode cX12_layWays 78 = .ok (.iadd, 1) := by decide +kernel
theorem dX12_layWays_79 : decode cX12_layWays 79 = .ok (.iconst 1, 1) := by decide +kernel
theorem dX12_layWays_80 : decode cX12_layWays 80 = .ok (.iastore, 1) := by decide +kernel
theorem dX12_layWays_81 : decode cX12_layWays 81 = .ok (.aload_n 0, 1) := by decide +kernel
theorem dX12_layWays_82 : decode cX12_layWays 82 = .ok (.getfield 34, 3) := by decide +kernel
theorem dX12_layWays_85 : decode cX12_layWays 85 = .ok (.bipush 6, 2) := by decide +kernel
theorem dX12_layWays_87 : decode cX12_layWays 87 = .ok (.aload_n 0, 1) := by decide +kernel
theorem dX12_layWays_88 : decode cX12_layWays 88 = .ok (.getfield 28, 3) := by decide +kernel
theorem dX12_layWays_91 : decode cX12_layWays 91 = .ok (.bipush 6, 2) := by decide +kernel
theorem dX12_layWays_93 : decode cX12_layWays 93 = .ok (.iload_n 1, 1) := by decide +kernel
theorem dX12_layWays_94 : decode cX12_layWays 94 = .ok (.imul, 1) := by decide +kernel
theorem dX12_layWays_95 : decode cX12_layWays 95 = .ok (.iconst 1, 1) := by decide +kernel
theorem dX12_layWays_96 : decode cX12_layWays 96 = .ok (.iadd, 1) := by decide +kernel
theorem dX12_layWays_97 : decode cX12_layWays 97 = .ok (.iaload, 1) := by decide +kernel
theorem dX12_layWays_98 : decode cX12_layWays 98 = .ok (.imul, 1) := by decide +kernel
theorem dX12_layWays_99 : decode cX12_layWays 99 = .ok (.iload_n 2, 1) := by decide +kernel
theorem dX12_layWays_100 : decode cX12_layWays 100 = .ok (.iadd, 1) := by decide +kernel
theorem dX12_layWays_101 : decode cX12_layWays 101 = .ok (.iload_n 2, 1) := by decide +kernel
theorem dX12_layWays_102 : decode cX12_layWays 102 = .ok (.iastore, 1) := by decide +kernel
theorem dX12_layWays_103 : decode cX12_layWays 103 = .ok (.iinc 2 1, 3) := by decide +kernel
theorem dX12_layWays_106 : decode cX12_layWays 106 = .ok (.goto (-83), 3) := by decide +kernel
theorem dX12_layWays_109 : decode cX12_layWays 109 = .ok (.iconst 1, 1) := by decide +kernel
theorem dX12_layWays_110 : decode cX12_layWays 110 = .ok (.istore_n 2, 1) := by decide +kernel
theorem dX12_layWays_111 : decode cX12_layWays 111 = .ok (.iload_n 2, 1) := by decide +kernel
theorem dX12_layWays_112 : decode cX12_layWays 112 = .ok (.bipush 8, 2) := by decide +kernel
theorem dX12_layWays_114 : decode cX12_layWays 114 = .ok (.if_icmp .ge 182, 3) := by decide +kernel
theorem dX12_layWays_117 : decode cX12_layWays 117 = .ok (.iconst 0, 1) := by decide +kernel
theorem dX12_layWays_118 : decode cX12_layWays 118 = .ok (.istore_n 3, 1) := by decide +kernel
theorem dX12_layWays_119 : decode cX12_layWays 119 = .ok (.iload_n 3, 1) := by decide +kernel
theorem dX12_layWays_120 : decode cX12_layWays 120 = .ok (.bipush 36, 2) := by decide +kernel
theorem dX12_layWays_122 : decode cX12_layWays 122 = .ok (.if_icmp .ge 168, 3) := by decide +kernel
theorem dX12_layWays_125 : decode cX12_layWays 125 = .ok (.iconst 0, 1) := by decide +kernel
theorem dX12_layWays_126 : decode cX12_layWays 126 = .ok (.istore 4, 2) := by decide +kernel
theorem dX12_layWays_128 : decode cX12_layWays 128 = .ok (.iload 4, 2) := by decide +kernel
theorem dX12_layWays_130 : decode cX12_layWays 130 = .ok (.aload_n 0, 1) := by decide +kernel
theorem dX12_layWays_131 : decode cX12_layWays 131 = .ok (.getfield 126, 3) := by decide +kernel
theorem dX12_layWays_134 : decode cX12_layWays 134 = .ok (.if_icmp .ge 150, 3) := by decide +kernel
theorem dX12_layWays_137 : decode cX12_layWays 137 = .ok (.aload_n 0, 1) := by decide +kernel
theorem dX12_layWays_138 : decode cX12_layWays 138 = .ok (.getfield 31, 3) := by decide +kernel
theorem dX12_layWays_141 : decode cX12_layWays 141 = .ok (.iload_n 3, 1) := by decide +kernel
theorem dX12_layWays_142 : decode cX12_layWays 142 = .ok (.iaload, 1) := by decide +kernel
theorem dX12_layWays_143 : decode cX12_layWays 143 = .ok (.iload_n 2, 1) := by decide +kernel
theorem dX12_layWays_144 : decode cX12_layWays 144 = .ok (.if_icmp .ne 140, 3) := by decide +kernel
theorem dX12_layWays_147 : decode cX12_layWays 147 = .ok (.iload_n 3, 1) := by decide +kernel
theorem dX12_layWays_148 : decode cX12_layWays 148 = .ok (.bipush 6, 2) := by decide +kernel
theorem dX12_layWays_150 : decode cX12_layWays 150 = .ok (.irem, 1) := by decide +kernel
theorem dX12_layWays_151 : decode cX12_layWays 151 = .ok (.istore 5, 2) := by decide +kernel
theorem dX12_layWays_153 : decode cX12_layWays 153 = .ok (.aload_n 0, 1) := by decide +kernel
theorem dX12_layWays_154 : decode cX12_layWays 154 = .ok (.iload_n 3, 1) := by decide +kernel
theorem dX12_layWays_155 : decode cX12_layWays 155 = .ok (.bipush 6, 2) := by decide +kernel
theorem dX12_layWays_157 : decode cX12_layWays 157 = .ok (.idiv, 1) := by decide +kernel
theorem dX12_layWays_158 : decode cX12_layWays 158 = .ok (.iload 5, 2) := by decide +kernel
theorem dX12_layWays_160 : decode cX12_layWays 160 = .ok (.iload 4, 2) := by decide +kernel
theorem dX12_layWays_162 : decode cX12_layWays 162 = .ok (.invokevirtual 189, 3) := by decide +kernel
theorem dX12_layWays_165 : decode cX12_layWays 165 = .ok (.ifCond .eq 113, 3) := by decide +kernel
theorem dX12_layWays_168 : decode cX12_layWays 168 = .ok (.bipush 6, 2) := by decide +kernel
theorem dX12_layWays_170 : decode cX12_layWays 170 = .ok (.iload 5, 2) := by decide +kernel
theorem dX12_layWays_172 : decode cX12_layWays 172 = .ok (.imul, 1) := by decide +kernel
theorem dX12_layWays_173 : decode cX12_layWays 173 = .ok (.iload 4, 2) := by decide +kernel
theorem dX12_layWays_175 : decode cX12_layWays 175 = .ok (.iadd, 1) := by decide +kernel
theorem dX12_layWays_176 : decode cX12_layWays 176 = .ok (.istore 6, 2) := by decide +kernel
theorem dX12_layWays_178 : decode cX12_layWays 178 = .ok (.aload_n 0, 1) := by decide +kernel
theorem dX12_layWays_179 : decode cX12_layWays 179 = .ok (.getfield 31, 3) := by decide +kernel
theorem dX12_layWays_182 : decode cX12_layWays 182 = .ok (.iload 6, 2) := by decide +kernel
theorem dX12_layWays_184 : decode cX12_layWays 184 = .ok (.iaload, 1) := by decide +kernel
theorem dX12_layWays_185 : decode cX12_layWays 185 = .ok (.iconst (-1), 1) := by decide +kernel
theorem dX12_layWays_186 : decode cX12_layWays 186 = .ok (.if_icmp .eq 32, 3) := by decide +kernel
theorem dX12_layWays_189 : decode cX12_layWays 189 = .ok (.aload_n 0, 1) := by decide +kernel
theorem dX12_layWays_190 : decode cX12_layWays 190 = .ok (.getfield 31, 3) := by decide +kernel
theorem dX12_layWays_193 : decode cX12_layWays 193 = .ok (.iload 6, 2) := by decide +kernel
theorem dX12_layWays_195 : decode cX12_layWays 195 = .ok (.iaload, 1) := by decide +kernel
theorem dX12_layWays_196 : decode cX12_layWays 196 = .ok (.iload_n 2, 1) := by decide +kernel
theorem dX12_layWays_197 : decode cX12_layWays 197 = .ok (.iconst 1, 1) := by decide +kernel
theorem dX12_layWays_198 : decode cX12_layWays 198 = .ok (.iadd, 1) := by decide +kernel
theorem dX12_layWays_199 : decode cX12_layWays 199 = .ok (.if_icmp .ne 23, 3) := by decide +kernel
theorem dX12_layWays_202 : decode cX12_layWays 202 = .ok (.aload_n 0, 1) := by decide +kernel
theorem dX12_layWays_203 : decode cX12_layWays 203 = .ok (.getfield 34, 3) := by decide +kernel
theorem dX12_layWays_206 : decode cX12_layWays 206 = .ok (.iload_n 3, 1) := by decide +kernel
theorem dX12_layWays_207 : decode cX12_layWays 207 = .ok (.iaload, 1) := by decide +kernel
theorem dX12_layWays_208 : decode cX12_layWays 208 = .ok (.aload_n 0, 1) := by decide +kernel
theorem dX12_layWays_209 : decode cX12_layWays 209 = .ok (.getfield 34, 3) := by decide +kernel
theorem dX12_layWays_212 : decode cX12_layWays 212 = .ok (.iload 6, 2) := by decide +kernel
theorem dX12_layWays_214 : decode cX12_layWays 214 = .ok (.iaload, 1) := by decide +kernel
theorem dX12_layWays_215 : decode cX12_layWays 215 = .ok (.if_icmp .ge 7, 3) := by decide +kernel
theorem dX12_layWays_218 : decode cX12_layWays 218 = .ok (.iconst 1, 1) := by decide +kernel
theorem dX12_layWays_219 : decode cX12_layWays 219 = .ok (.goto 4, 3) := by decide +kernel
theorem dX12_layWays_222 : decode cX12_layWays 222 = .ok (.iconst 0, 1) := by decide +kernel
theorem dX12_layWays_223 : decode cX12_layWays 223 = .ok (.istore 7, 2) := by decide +kernel
theorem dX12_layWays_225 : decode cX12_layWays 225 = .ok (.aload_n 0, 1) := by decide +kernel
theorem dX12_layWays_226 : decode cX12_layWays 226 = .ok (.getfield 34, 3) := by decide +kernel
theorem dX12_layWays_229 : decode cX12_layWays 229 = .ok (.iload 6, 2) := by decide +kernel
theorem dX12_layWays_231 : decode cX12_layWays 231 = .ok (.iload 7, 2) := by decide +kernel
theorem dX12_layWays_233 : decode cX12_layWays 233 = .ok (.ifCond .eq 12, 3) := by decide +kernel
theorem dX12_layWays_236 : decode cX12_layWays 236 = .ok (.aload_n 0, 1) := by decide +kernel
theorem dX12_layWays_237 : decode cX12_layWays 237 = .ok (.getfield 34, 3) := by decide +kernel
theorem dX12_layWays_240 : decode cX12_layWays 240 = .ok (.iload_n 3, 1) := by decide +kernel
theorem dX12_layWays_241 : decode cX12_layWays 241 = .ok (.iaload, 1) := by decide +kernel
theorem dX12_layWays_242 : decode cX12_layWays 242 = .ok (.goto 10, 3) := by decide +kernel
theorem dX12_layWays_245 : decode cX12_layWays 245 = .ok (.aload_n 0, 1) := by decide +kernel
theorem dX12_layWays_246 : decode cX12_layWays 246 = .ok (.getfield 34, 3) := by decide +kernel
theorem dX12_layWays_249 : decode cX12_layWays 249 = .ok (.iload 6, 2) := by decide +kernel
theorem dX12_layWays_251 : decode cX12_layWays 251 = .ok (.iaload, 1) := by decide +kernel
theorem dX12_layWays_252 : decode cX12_layWays 252 = .ok (.iastore, 1) := by decide +kernel
theorem dX12_layWays_253 : decode cX12_layWays 253 = .ok (.aload_n 0, 1) := by decide +kernel
theorem dX12_layWays_254 : decode cX12_layWays 254 = .ok (.getfield 31, 3) := by decide +kernel
theorem dX12_layWays_257 : decode cX12_layWays 257 = .ok (.iload 6, 2) := by decide +kernel
theorem dX12_layWays_259 : decode cX12_layWays 259 = .ok (.iload 7, 2) := by decide +kernel
theorem dX12_layWays_261 : decode cX12_layWays 261 = .ok (.ifCond .eq 9, 3) := by decide +kernel
theorem dX12_layWays_264 : decode cX12_layWays 264 = .ok (.iload_n 2, 1) := by decide +kernel
theorem dX12_layWays_265 : decode cX12_layWays 265 = .ok (.iconst 1, 1) := by decide +kernel
theorem dX12_layWays_266 : decode cX12_layWays 266 = .ok (.iadd, 1) := by decide +kernel
theorem dX12_layWays_267 : decode cX12_layWays 267 = .ok (.goto 10, 3) := by decide +kernel
theorem dX12_layWays_270 : decode cX12_layWays 270 = .ok (.aload_n 0, 1) := by decide +kernel
theorem dX12_layWays_271 : decode cX12_layWays 271 = .ok (.getfield 31, 3) := by decide +kernel
theorem dX12_layWays_274 : decode cX12_layWays 274 = .ok (.iload 6, 2) := by decide +kernel
theorem dX12_layWays_276 : decode cX12_layWays 276 = .ok (.iaload, 1) := by decide +kernel
theorem dX12_layWays_277 : decode cX12_layWays 277 = .ok (.iastore, 1) := by decide +kernel
theorem dX12_layWays_278 : decode cX12_layWays 278 = .ok (.iinc 4 1, 3) := by decide +kernel
theorem dX12_layWays_281 : decode cX12_layWays 281 = .ok (.goto (-153), 3) := by decide +kernel
theorem dX12_layWays_284 : decode cX12_layWays 284 = .ok (.iinc 3 1, 3) := by decide +kernel
theorem dX12_layWays_287 : decode cX12_layWays 287 = .ok (.goto (-168), 3) := by decide +kernel
theorem dX12_layWays_290 : decode cX12_layWays 290 = .ok (.iinc 2 1, 3) := by decide +kernel
theorem dX12_layWays_293 : decode cX12_layWays 293 = .ok (.goto (-182), 3) := by decide +kernel
theorem dX12_layWays_296 : decode cX12_layWays 296 = .ok (.return_, 1) := by decide +kernel
theorem dX12_leastOwed_0 : decode cX12_leastOwed 0 = .ok (.iconst 0, 1) := by decide +kernel
theorem dX12_leastOwed_1 : decode cX12_leastOwed 1 = .ok (.istore_n 2, 1) := by decide +kernel
theorem dX12_leastOwed_2 : decode cX12_leastOwed 2 = .ok (.iload_n 2, 1) := by decide +kernel
theorem dX12_leastOwed_3 : decode cX12_leastOwed 3 = .ok (.aload_n 0, 1) := by decide +kernel
theorem dX12_leastOwed_4 : decode cX12_leastOwed 4 = .ok (.getfield 129, 3) := by decide +kernel
theorem dX12_leastOwed_7 : decode cX12_leastOwed 7 = .ok (.if_icmp .ge 34, 3) := by decide +kernel
theorem dX12_leastOwed_10 : decode cX12_leastOwed 10 = .ok (.aload_n 0, 1) := by decide +kernel
theorem dX12_leastOwed_11 : decode cX12_leastOwed 11 = .ok (.getfield 28, 3) := by decide +kernel
theorem dX12_leastOwed_14 : decode cX12_leastOwed 14 = .ok (.bipush 6, 2) := by decide +kernel
theorem dX12_leastOwed_16 : decode cX12_leastOwed 16 = .ok (.iload_n 2, 1) := by decide +kernel
theorem dX12_leastOwed_17 : decode cX12_leastOwed 17 = .ok (.imul, 1) := by decide +kernel
theorem dX12_leastOwed_18 : decode cX12_leastOwed 18 = .ok (.iconst 1, 1) := by decide +kernel
theorem dX12_leastOwed_19 : decode cX12_leastOwed 19 = .ok (.iadd, 1) := by decide +kernel
theorem dX12_leastOwed_20 : decode cX12_leastOwed 20 = .ok (.iaload, 1) := by decide +kernel
theorem dX12_leastOwed_21 : decode cX12_leastOwed 21 = .ok (.iload_n 1, 1) := by decide +kernel
theorem dX12_leastOwed_22 : decode cX12_leastOwed 22 = .ok (.if_icmp .ne 13, 3) := by decide +kernel
theorem dX12_leastOwed_25 : decode cX12_leastOwed 25 = .ok (.aload_n 0, 1) := by decide +kernel
theorem dX12_leastOwed_26 : decode cX12_leastOwed 26 = .ok (.iload_n 2, 1) := by decide +kernel
theorem dX12_leastOwed_27 : decode cX12_leastOwed 27 = .ok (.invokevirtual 174, 3) := by decide +kernel
theorem dX12_leastOwed_30 : decode cX12_leastOwed 30 = .ok (.ifCond .eq 5, 3) := by decide +kernel
theorem dX12_leastOwed_33 : decode cX12_leastOwed 33 = .ok (.iload_n 2, 1) := by decide +kernel
theorem dX12_leastOwed_34 : decode cX12_leastOwed 34 = .ok (.ireturn, 1) := by decide +kernel
theorem dX12_leastOwed_35 : decode cX12_leastOwed 35 = .ok (.iinc 2 1, 3) := by decide +kernel
theorem dX12_leastOwed_38 : decode cX12_leastOwed 38 = .ok (.goto (-36), 3) := by decide +kernel
theorem dX12_leastOwed_41 : decode cX12_leastOwed 41 = .ok (.iconst (-1), 1) := by decide +kernel
theorem dX12_leastOwed_42 : decode cX12_leastOwed 42 = .ok (.ireturn, 1) := by decide +kernel
theorem dX12_letter_0 : decode cX12_letter 0 = .ok (.iload_n 1, 1) := by decide +kernel
theorem dX12_letter_1 : decode cX12_letter 1 = .ok (.i2l, 1) := by decide +kernel
theorem dX12_letter_2 : decode cX12_letter 2 = .ok (.lconst 1, 1) := by decide +kernel
theorem dX12_letter_3 : decode cX12_letter 3 = .ok (.ldc2_w 68, 3) := by decide +kernel
theorem dX12_letter_6 : decode cX12_letter 6 = .ok (.invokestatic 70, 3) := by decide +kernel
theorem dX12_letter_9 : decode cX12_letter 9 = .ok (.ifCond .ne 6, 3) := by decide +kernel
theorem dX12_letter_12 : decode cX12_letter 12 = .ok (.bipush (-102), 2) := by decide +kernel
theorem dX12_letter_14 : decode cX12_letter 14 = .ok (.ireturn, 1) := by decide +kernel
theorem dX12_letter_15 : decode cX12_letter 15 = .ok (.aload_n 0, 1) := by decide +kernel
theorem dX12_letter_16 : decode cX12_letter 16 = .ok (.getfield 74, 3) := by decide +kernel
theorem dX12_letter_19 : decode cX12_letter 19 = .ok (.bipush 54, 2) := by decide +kernel
theorem dX12_letter_21 : decode cX12_letter 21 = .ok (.if_icmp .ne 6, 3) := by decide +kernel
theorem dX12_letter_24 : decode cX12_letter 24 = .ok (.bipush (-104), 2) := by decide +kernel
theorem dX12_letter_26 : decode cX12_letter 26 = .ok (.ireturn, 1) := by decide +kernel
theorem dX12_letter_27 : decode cX12_letter 27 = .ok (.aload_n 0, 1) := by decide +kernel
theorem dX12_letter_28 : decode cX12_letter 28 = .ok (.getfield 7, 3) := by decide +kernel
theorem dX12_letter_31 : decode cX12_letter 31 = .ok (.aload_n 0, 1) := by decide +kernel
theorem dX12_letter_32 : decode cX12_letter 32 = .ok (.getfield 74, 3) := by decide +kernel
theorem dX12_letter_35 : decode cX12_letter 35 = .ok (.iload_n 1, 1) := by decide +kernel
theorem dX12_letter_36 : decode cX12_letter 36 = .ok (.iastore, 1) := by decide +kernel
theorem dX12_letter_37 : decode cX12_letter 37 = .ok (.aload_n 0, 1) := by decide +kernel
theorem dX12_letter_38 : decode cX12_letter 38 = .ok (.dup, 1) := by decide +kernel
theorem dX12_letter_39 : decode cX12_letter 39 = .ok (.getfield 74, 3) := by decide +kernel
theorem dX12_letter_42 : decode cX12_letter 42 = .ok (.iconst 1, 1) := by decide +kernel
theorem dX12_letter_43 : decode cX12_letter 43 = .ok (.iadd, 1) := by decide +kernel
theorem dX12_letter_44 : decode cX12_letter 44 = .ok (.putfield 74, 3) := by decide +kernel
theorem dX12_letter_47 : decode cX12_letter 47 = .ok (.aload_n 0, 1) := by decide +kernel
theorem dX12_letter_48 : decode cX12_letter 48 = .ok (.getfield 74, 3) := by decide +kernel
theorem dX12_letter_51 : decode cX12_letter 51 = .ok (.ireturn, 1) := by decide +kernel
theorem dX12_may_0 : decode cX12_may 0 = .ok (.aload_n 0, 1) := by decide +kernel
theorem dX12_may_1 : decode cX12_may 1 = .ok (.iload_n 1, 1) := by decide +kernel
theorem dX12_may_2 : decode cX12_may 2 = .ok (.iload_n 2, 1) := by decide +kernel
theorem dX12_may_3 : decode cX12_may 3 = .ok (.iload 4, 2) := by decide +kernel
theorem dX12_may_5 : decode cX12_may 5 = .ok (.invokevirtual 196, 3) := by decide +kernel
theorem dX12_may_8 : decode cX12_may 8 = .ok (.ifCond .ne 6, 3) := by decide +kernel
theorem dX12_may_11 : decode cX12_may 11 = .ok (.bipush (-101), 2) := by decide +kernel
theorem dX12_may_13 : decode cX12_may 13 = .ok (.ireturn, 1) := by decide +kernel
theorem dX12_may_14 : decode cX12_may 14 = .ok (.iload_n 3, 1) := by decide +kernel
theorem dX12_may_15 : decode cX12_may 15 = .ok (.i2l, 1) := by decide +kernel
theorem dX12_may_16 : decode cX12_may 16 = .ok (.lconst 1, 1) := by decide +kernel
theorem dX12_may_17 : decode cX12_may 17 = .ok (.ldc2_w 199, 3) := by decide +kernel
theorem dX12_may_20 : decode cX12_may 20 = .ok (.invokestatic 70, 3) := by decide +kernel
theorem dX12_may_23 : decode cX12_may 23 = .ok (.ifCond .ne 6, 3) := by decide +kernel
theorem dX12_may_26 : decode cX12_may 26 = .ok (.bipush (-102), 2) := by decide +kernel
theorem dX12_may_28 : decode cX12_may 28 = .ok (.ireturn, 1) := by decide +kernel
theorem dX12_may_29 : decode cX12_may 29 = .ok (.aload_n 0, 1) := by decide +kernel
theorem dX12_may_30 : decode cX12_may 30 = .ok (.iload_n 1, 1) := by decide +kernel
theorem dX12_may_31 : decode cX12_may 31 = .ok (.iload_n 2, 1) := by decide +kernel
theorem dX12_may_32 : decode cX12_may 32 = .ok (.iload_n 3, 1) := by decide +kernel
theorem dX12_may_33 : decode cX12_may 33 = .ok (.iload 4, 2) := by decide +kernel
theorem dX12_may_35 : decode cX12_may 35 = .ok (.invokevirtual 201, 3) := by decide +kernel
theorem dX12_may_38 : decode cX12_may 38 = .ok (.ifCond .eq 7, 3) := by decide +kernel
theorem dX12_may_41 : decode cX12_may 41 = .ok (.iconst 1, 1) := by decide +kernel
theorem dX12_may_42 : decode cX12_may 42 = .ok (.goto 4, 3) := by decide +kernel
theorem dX12_may_45 : decode cX12_may 45 = .ok (.iconst 0, 1) := by decide +kernel
theorem dX12_may_46 : decode cX12_may 46 = .ok (.ireturn, 1) := by decide +kernel
theorem dX12_mayDo_0 : decode cX12_mayDo 0 = .ok (.iload 4, 2) := by decide +kernel
theorem dX12_mayDo_2 : decode cX12_mayDo 2 = .ok (.iconst (-1), 1) := by decide +kernel
theorem dX12_mayDo_3 : decode cX12_mayDo 3 = .ok (.if_icmp .ne 11, 3) := by decide +kernel
theorem dX12_mayDo_6 : decode cX12_mayDo 6 = .ok (.aload_n 0, 1) := by decide +kernel
theorem dX12_mayDo_7 : decode cX12_mayDo 7 = .ok (.iconst (-1), 1) := by decide +kernel
theorem dX12_mayDo_8 : decode cX12_mayDo 8 = .ok (.iload_n 1, 1) := by decide +kernel
theorem dX12_mayDo_9 : decode cX12_mayDo 9 = .ok (.iload_n 2, 1) := by decide +kernel
theorem dX12_mayDo_10 : decode cX12_mayDo 10 = .ok (.invokevirtual 189, 3) := by decide +kernel
theorem dX12_mayDo_13 : decode cX12_mayDo 13 = .ok (.ireturn, 1) := by decide +kernel
theorem dX12_mayDo_14 : decode cX12_mayDo 14 = .ok (.bipush 6, 2) := by decide +kernel
theorem dX12_mayDo_16 : decode cX12_mayDo 16 = .ok (.iload 4, 2) := by decide +kernel
theorem dX12_mayDo_18 : decode cX12_mayDo 18 = .ok (.imul, 1) := by decide +kernel
theorem dX12_mayDo_19 : decode cX12_mayDo 19 = .ok (.istore 5, 2) := by decide +kernel
theorem dX12_mayDo_21 : decode cX12_mayDo 21 = .ok (.aload_n 0, 1) := by decide +kernel
theorem dX12_mayDo_22 : decode cX12_mayDo 22 = .ok (.getfield 28, 3) := by decide +kernel
theorem dX12_mayDo_25 : decode cX12_mayDo 25 = .ok (.iload 5, 2) := by decide +kernel
theorem dX12_mayDo_27 : decode cX12_mayDo 27 = .ok (.iconst 1, 1) := by decide +kernel
theorem dX12_mayDo_28 : decode cX12_mayDo 28 = .ok (.iadd, 1) := by decide +kernel
theorem dX12_mayDo_29 : decode cX12_mayDo 29 = .ok (.iaload, 1) := by decide +kernel
theorem dX12_mayDo_30 : decode cX12_mayDo 30 = .ok (.iload_n 1, 1) := by decide +kernel
theorem dX12_mayDo_31 : decode cX12_mayDo 31 = .ok (.if_icmp .ne 32, 3) := by decide +kernel
theorem dX12_mayDo_34 : decode cX12_mayDo 34 = .ok (.aload_n 0, 1) := by decide +kernel
theorem dX12_mayDo_35 : decode cX12_mayDo 35 = .ok (.iload 4, 2) := by decide +kernel
theorem dX12_mayDo_37 : decode cX12_mayDo 37 = .ok (.invokevirtual 174, 3) := by decide +kernel
theorem dX12_mayDo_40 : decode cX12_mayDo 40 = .ok (.ifCond .eq 23, 3) := by decide +kernel
theorem dX12_mayDo_43 : decode cX12_mayDo 43 = .ok (.aload_n 0, 1) := by decide +kernel
theorem dX12_mayDo_44 : decode cX12_mayDo 44 = .ok (.aload_n 0, 1) := by decide +kernel
theorem dX12_mayDo_45 : decode cX12_mayDo 45 = .ok (.getfield 28, 3) := by decide +kernel
theorem dX12_mayDo_48 : decode cX12_mayDo 48 = .ok (.iload 5, 2) := by decide +kernel
theorem dX12_mayDo_50 : decode cX12_mayDo 50 = .ok (.iaload, 1) := by decide +kernel
theorem dX12_mayDo_51 : decode cX12_mayDo 51 = .ok (.iload_n 1, 1) := by decide +kernel
theorem dX12_mayDo_52 : decode cX12_mayDo 52 = .ok (.iload_n 2, 1) := by decide +kernel
theorem dX12_mayDo_53 : decode cX12_mayDo 53 = .ok (.invokevirtual 189, 3) := by decide +kernel
theorem dX12_mayDo_56 : decode cX12_mayDo 56 = .ok (.ifCond .eq 7, 3) := by decide +kernel
theorem dX12_mayDo_59 : decode cX12_mayDo 59 = .ok (.iconst 1, 1) := by decide +kernel
theorem dX12_mayDo_60 : decode cX12_mayDo 60 = .ok (.goto 4, 3) := by decide +kernel
theorem dX12_mayDo_63 : decode cX12_mayDo 63 = .ok (.iconst 0, 1) := by decide +kernel
theorem dX12_mayDo_64 : decode cX12_mayDo 64 = .ok (.istore 6, 2) := by decide +kernel
theorem dX12_mayDo_66 : decode cX12_mayDo 66 = .ok (.iload 6, 2) := by decide +kernel
theorem dX12_mayDo_68 : decode cX12_mayDo 68 = .ok (.ifCond .eq 45, 3) := by decide +kernel
theorem dX12_mayDo_71 : decode cX12_mayDo 71 = .ok (.iload_n 3, 1) := by decide +kernel
theorem dX12_mayDo_72 : decode cX12_mayDo 72 = .ok (.aload_n 0, 1) := by decide +kernel
theorem dX12_mayDo_73 : decode cX12_mayDo 73 = .ok (.getfield 28, 3) := by decide +kernel
theorem dX12_mayDo_76 : decode cX12_mayDo 76 = .ok (.iload 5, 2) := by decide +kernel
theorem dX12_mayDo_78 : decode cX12_mayDo 78 = .ok (.iconst 2, 1) := by decide +kernel
theorem dX12_mayDo_79 : decode cX12_mayDo 79 = .ok (.iadd, 1) := by decide +kernel
theorem dX12_mayDo_80 : decode cX12_mayDo 80 = .ok (.iaload, 1) := by decide +kernel
theorem dX12_mayDo_81 : decode cX12_mayDo 81 = .ok (.aload_n 0, 1) := by decide +kernel
theorem dX12_mayDo_82 : decode cX12_mayDo 82 = .ok (.getfield 25, 3) := by decide +kernel
theorem dX12_mayDo_85 : decode cX12_mayDo 85 = .ok (.iload_n 1, 1) := by decide +kernel
theorem dX12_mayDo_86 : decode cX12_mayDo 86 = .ok (.iaload, 1) := by decide +kernel
theorem dX12_mayDo_87 : decode cX12_mayDo 87 = .ok (.iconst 2, 1) := by decide +kernel
theorem dX12_mayDo_88 : decode cX12_mayDo 88 = .ok (.if_icmp .ne 7, 3) := by decide +kernel
theorem dX12_mayDo_91 : decode cX12_mayDo 91 = .ok (.iconst 1, 1) := by decide +kernel
theorem dX12_mayDo_92 : decode cX12_mayDo 92 = .ok (.goto 4, 3) := by decide +kernel
theorem dX12_mayDo_95 : decode cX12_mayDo 95 = .ok (.iconst 0, 1) := by decide +kernel
theorem dX12_mayDo_96 : decode cX12_mayDo 96 = .ok (.isub, 1) := by decide +kernel
theorem dX12_mayDo_97 : decode cX12_mayDo 97 = .ok (.if_icmp .lt 16, 3) := by decide +kernel
theorem dX12_mayDo_100 : decode cX12_mayDo 100 = .ok (.aload_n 0, 1) := by decide +kernel
theorem dX12_mayDo_101 : decode cX12_mayDo 101 = .ok (.iload 4, 2) := by decide +kernel
theorem dX12_mayDo_103 : decode cX12_mayDo 103 = .ok (.invokevirtual 177, 3) := by decide +kernel
theorem dX12_mayDo_106 : decode cX12_mayDo 106 = .ok (.ifCond .ne 7, 3) := by decide +kernel
theorem dX12_mayDo_109 : decode cX12_mayDo 109 = .ok (.iconst 1, 1) := by decide +kernel
theorem dX12_mayDo_110 : decode cX12_mayDo 110 = .ok (.goto 4, 3) := by decide +kernel
theorem dX12_mayDo_113 : decode cX12_mayDo 113 = .ok (.iconst 0, 1) := by decide +kernel
theorem dX12_mayDo_114 : decode cX12_mayDo 114 = .ok (.ireturn, 1) := by decide +kernel
theorem dX12_meeting_0 : decode cX12_meeting 0 = .ok (.aload_n 0, 1) := by decide +kernel
theorem dX12_meeting_1 : decode cX12_meeting 1 = .ok (.iload_n 1, 1) := by decide +kernel
theorem dX12_meeting_2 : decode cX12_meeting 2 = .ok (.invokevirtual 193, 3) := by decide +kernel
theorem dX12_meeting_5 : decode cX12_meeting 5 = .ok (.ifCond .eq 11, 3) := by decide +kernel
theorem dX12_meeting_8 : decode cX12_meeting 8 = .ok (.aload_n 0, 1) := by decide +kernel
theorem dX12_meeting_9 : decode cX12_meeting 9 = .ok (.iload_n 2, 1) := by decide +kernel
theorem dX12_meeting_10 : decode cX12_meeting 10 = .ok (.invokevirtual 138, 3) := by decide +kernel
theorem dX12_meeting_13 : decode cX12_meeting 13 = .ok (.ifCond .ne 6, 3) := by decide +kernel
theorem dX12_meeting_16 : decode cX12_meeting 16 = .ok (.bipush (-101), 2) := by decide +kernel
theorem dX12_meeting_18 : decode cX12_meeting 18 = .ok (.ireturn, 1) := by decide +kernel
theorem dX12_meeting_19 : decode cX12_meeting 19 = .ok (.aload_n 0, 1) := by decide +kernel
theorem dX12_meeting_20 : decode cX12_meeting 20 = .ok (.iload_n 1, 1) := by decide +kernel
theorem dX12_meeting_21 : decode cX12_meeting 21 = .ok (.invokevirtual 174, 3) := by decide +kernel
theorem dX12_meeting_24 : decode cX12_meeting 24 = .ok (.ifCond .ne 6, 3) := by decide +kernel
theorem dX12_meeting_27 : decode cX12_meeting 27 = .ok (.bipush (-103), 2) := by decide +kernel
theorem dX12_meeting_29 : decode cX12_meeting 29 = .ok (.ireturn, 1) := by decide +kernel
theorem dX12_meeting_30 : decode cX12_meeting 30 = .ok (.aload_n 0, 1) := by decide +kernel
theorem dX12_meeting_31 : decode cX12_meeting 31 = .ok (.iload_n 1, 1) := by decide +kernel
theorem dX12_meeting_32 : decode cX12_meeting 32 = .ok (.invokevirtual 224, 3) := by decide +kernel
theorem dX12_meeting_35 : decode cX12_meeting 35 = .ok (.aload_n 0, 1) := by decide +kernel
theorem dX12_meeting_36 : decode cX12_meeting 36 = .ok (.iload_n 2, 1) := by decide +kernel
theorem dX12_meeting_37 : decode cX12_meeting 37 = .ok (.invokevirtual 221, 3) := by decide +kernel
theorem dX12_meeting_40 : decode cX12_meeting 40 = .ok (.istore_n 3, 1) := by decide +kernel
theorem dX12_meeting_41 : decode cX12_meeting 41 = .ok (.iconst (-1), 1) := by decide +kernel
theorem dX12_meeting_42 : decode cX12_meeting 42 = .ok (.istore 4, 2) := by decide +kernel
theorem dX12_meeting_44 : decode cX12_meeting 44 = .ok (.iconst 0, 1) := by decide +kernel
theorem dX12_meeting_45 : decode cX12_meeting 45 = .ok (.istore 5, 2) := by decide +kernel
theorem dX12_meeting_47 : decode cX12_meeting 47 = .ok (.iload 5, 2) := by decide +kernel
theorem dX12_meeting_49 : decode cX12_meeting 49 = .ok (.bipush 36, 2) := by decide +kernel
theorem dX12_meeting_51 : decode cX12_meeting 51 = .ok (.if_icmp .ge 134, 3) := by decide +kernel
theorem dX12_meeting_54 : decode cX12_meeting 54 = .ok (.iload 5, 2) := by decide +kernel
theorem dX12_meeting_56 : decode cX12_meeting 56 = .ok (.bipush 6, 2) := by decide +kernel
theorem dX12_meeting_58 : decode cX12_meeting 58 = .ok (.idiv, 1) := by decide +kernel
theorem dX12_meeting_59 : decode cX12_meeting 59 = .ok (.istore 6, 2) := by decide +kernel
theorem dX12_meeting_61 : decode cX12_meeting 61 = .ok (.iload 5, 2) := by decide +kernel
theorem dX12_meeting_63 : decode cX12_meeting 63 = .ok (.bipush 6, 2) := by decide +kernel
theorem dX12_meeting_65 : decode cX12_meeting 65 = .ok (.irem, 1) := by decide +kernel
theorem dX12_meeting_66 : decode cX12_meeting 66 = .ok (.istore 7, 2) := by decide +kernel
theorem dX12_meeting_68 : decode cX12_meeting 68 = .ok (.iload 6, 2) := by decide +kernel
theorem dX12_meeting_70 : decode cX12_meeting 70 = .ok (.iload 7, 2) := by decide +kernel
theorem dX12_meeting_72 : decode cX12_meeting 72 = .ok (.if_icmp .ge 107, 3) := by decide +kernel
theorem dX12_meeting_75 : decode cX12_meeting 75 = .ok (.iload 7, 2) := by decide +kernel
theorem dX12_meeting_77 : decode cX12_meeting 77 = .ok (.aload_n 0, 1) := by decide +kernel
theorem dX12_meeting_78 : decode cX12_meeting 78 = .ok (.getfield 126, 3) := by decide +kernel
theorem dX12_meeting_81 : decode cX12_meeting 81 = .ok (.if_icmp .ge 98, 3) := by decide +kernel
theorem dX12_meeting_84 : decode cX12_meeting 84 = .ok (.aload_n 0, 1) := by decide +kernel
theorem dX12_meeting_85 : decode cX12_meeting 85 = .ok (.iload 6, 2) := by decide +kernel
theorem dX12_meeting_87 : decode cX12_meeting 87 = .ok (.iload 7, 2) := by decide +kernel
theorem dX12_meeting_89 : decode cX12_meeting 89 = .ok (.invokevirtual 154, 3) := by decide +kernel
theorem dX12_meeting_92 : decode cX12_meeting 92 = .ok (.ifCond .ne 87, 3) := by decide +kernel
theorem dX12_meeting_95 : decode cX12_meeting 95 = .ok (.aload_n 0, 1) := by decide +kernel
theorem dX12_meeting_96 : decode cX12_meeting 96 = .ok (.iload 6, 2) := by decide +kernel
theorem dX12_meeting_98 : decode cX12_meeting 98 = .ok (.putfield 144, 3) := by decide +kernel
theorem dX12_meeting_101 : decode cX12_meeting 101 = .ok (.aload_n 0, 1) := by decide +kernel
theorem dX12_meeting_102 : decode cX12_meeting 102 = .ok (.iload 7, 2) := by decide +kernel
theorem dX12_meeting_104 : decode cX12_meeting 104 = .ok (.putfield 147, 3) := by decide +kernel
theorem dX12_meeting_107 : decode cX12_meeting 107 = .ok (.aload_n 0, 1) := by decide +kernel
theorem dX12_meeting_108 : decode cX12_meeting 108 = .ok (.iconst 1, 1) := by decide +kernel
theorem dX12_meeting_109 : decode cX12_meeting 109 = .ok (.putfield 141, 3) := by decide +kernel
theorem dX12_meeting_112 : decode cX12_meeting 112 = .ok (.aload_n 0, 1) := by decide +kernel
theorem dX12_meeting_113 : decode cX12_meeting 113 = .ok (.iload_n 1, 1) := by decide +kernel
theorem dX12_meeting_114 : decode cX12_meeting 114 = .ok (.invokevirtual 224, 3) := by decide +kernel
theorem dX12_meeting_117 : decode cX12_meeting 117 = .ok (.aload_n 0, 1) := by decide +kernel
theorem dX12_meeting_118 : decode cX12_meeting 118 = .ok (.iconst 0, 1) := by decide +kernel
theorem dX12_meeting_119 : decode cX12_meeting 119 = .ok (.putfield 141, 3) := by decide +kernel
theorem dX12_meeting_122 : decode cX12_meeting 122 = .ok (.aload_n 0, 1) := by decide +kernel
theorem dX12_meeting_123 : decode cX12_meeting 123 = .ok (.iload_n 2, 1) := by decide +kernel
theorem dX12_meeting_124 : decode cX12_meeting 124 = .ok (.invokevirtual 221, 3) := by decide +kernel
theorem dX12_meeting_127 : decode cX12_meeting 127 = .ok (.istore 8, 2) := by decide +kernel
theorem dX12_meeting_129 : decode cX12_meeting 129 = .ok (.iload 8, 2) := by decide +kernel
theorem dX12_meeting_131 : decode cX12_meeting 131 = .ok (.iconst (-1), 1) := by decide +kernel
theorem dX12_meeting_132 : decode cX12_meeting 132 = .ok (.if_icmp .eq 18, 3) := by decide +kernel
theorem dX12_meeting_135 : decode cX12_meeting 135 = .ok (.iload_n 3, 1) := by decide +kernel
theorem dX12_meeting_136 : decode cX12_meeting 136 = .ok (.iconst (-1), 1) := by decide +kernel
theorem dX12_meeting_137 : decode cX12_meeting 137 = .ok (.if_icmp .eq 9, 3) := by decide +kernel
theorem dX12_meeting_140 : decode cX12_meeting 140 = .ok (.iload 8, 2) := by decide +kernel
theorem dX12_meeting_142 : decode cX12_meeting 142 = .ok (.iload_n 3, 1) := by decide +kernel
theorem dX12_meeting_143 : decode cX12_meeting 143 = .ok (.if_icmp .ge 7, 3) := by decide +kernel
theorem dX12_meeting_146 : decode cX12_meeting 146 = .ok (.iconst 1, 1) := by decide +kernel
theorem dX12_meeting_147 : decode cX12_meeting 147 = .ok (.goto 4, 3) := by decide +kernel
theorem dX12_meeting_150 : decode cX12_meeting 150 = .ok (.iconst 0, 1) := by decide +kernel
theorem dX12_meeting_151 : decode cX12_meeting 151 = .ok (.istore 9, 2) := by decide +kernel
theorem dX12_meeting_153 : decode cX12_meeting 153 = .ok (.iload 9, 2) := by decide +kernel
theorem dX12_meeting_155 : decode cX12_meeting 155 = .ok (.ifCond .eq 8, 3) := by decide +kernel
theorem dX12_meeting_158 : decode cX12_meeting 158 = .ok (.iload 5, 2) := by decide +kernel
theorem dX12_meeting_160 : decode cX12_meeting 160 = .ok (.goto 5, 3) := by decide +kernel
theorem dX12_meeting_163 : decode cX12_meeting 163 = .ok (.iload 4, 2) := by decide +kernel
theorem dX12_meeting_165 : decode cX12_meeting 165 = .ok (.istore 4, 2) := by decide +kernel
theorem dX12_meeting_167 : decode cX12_meeting 167 = .ok (.iload 9, 2) := by decide +kernel
theorem dX12_meeting_169 : decode cX12_meeting 169 = .ok (.ifCond .eq 8, 3) := by decide +kernel
theorem dX12_meeting_172 : decode cX12_meeting 172 = .ok (.iload 8, 2) := by decide +kernel
theorem dX12_meeting_174 : decode cX12_meeting 174 = .ok (.goto 4, 3) := by decide +kernel
theorem dX12_meeting_177 : decode cX12_meeting 177 = .ok (.iload_n 3, 1) := by decide +kernel
theorem dX12_meeting_178 : decode cX12_meeting 178 = .ok (.istore_n 3, 1) := by decide +kernel
theorem dX12_meeting_179 : decode cX12_meeting 179 = .ok (.iinc 5 1, 3) := by decide +kernel
theorem dX12_meeting_182 : decode cX12_meeting 182 = .ok (.goto (-135), 3) := by decide +kernel
theorem dX12_meeting_185 : decode cX12_meeting 185 = .ok (.iload 4, 2) := by decide +kernel
theorem dX12_meeting_187 : decode cX12_meeting 187 = .ok (.ireturn, 1) := by decide +kernel
theorem dX12_owedMany_0 : decode cX12_owedMany 0 = .ok (.iconst 0, 1) := by decide +kernel
theorem dX12_owedMany_1 : decode cX12_owedMany 1 = .ok (.istore_n 1, 1) := by decide +kernel
theorem dX12_owedMany_2 : decode cX12_owedMany 2 = .ok (.iconst 0, 1) := by decide +kernel
theorem dX12_owedMany_3 : decode cX12_owedMany 3 = .ok (.istore_n 2, 1) := by decide +kernel
theorem dX12_owedMany_4 : decode cX12_owedMany 4 = .ok (.iload_n 2, 1) := by decide +kernel
theorem dX12_owedMany_5 : decode cX12_owedMany 5 = .ok (.aload_n 0, 1) := by decide +kernel
theorem dX12_owedMany_6 : decode cX12_owedMany 6 = .ok (.getfield 129, 3) := by decide +kernel
theorem dX12_owedMany_9 : decode cX12_owedMany 9 = .ok (.if_icmp .ge 25, 3) := by decide +kernel
theorem dX12_owedMany_12 : decode cX12_owedMany 12 = .ok (.iload_n 1, 1) := by decide +kernel
theorem dX12_owedMany_13 : decode cX12_owedMany 13 = .ok (.aload_n 0, 1) := by decide +kernel
theorem dX12_owedMany_14 : decode cX12_owedMany 14 = .ok (.iload_n 2, 1) := by decide +kernel
theorem dX12_owedMany_15 : decode cX12_owedMany 15 = .ok (.invokevirtual 174, 3) := by decide +kernel
theorem dX12_owedMany_18 : decode cX12_owedMany 18 = .ok (.ifCond .eq 7, 3) := by decide +kernel
theorem dX12_owedMany_21 : decode cX12_owedMany 21 = .ok (.iconst 1, 1) := by decide +kernel
theorem dX12_owedMany_22 : decode cX12_owedMany 22 = .ok (.goto 4, 3) := by decide +kernel
theorem dX12_owedMany_25 : decode cX12_owedMany 25 = .ok (.iconst 0, 1) := by decide +kernel
theorem dX12_owedMany_26 : decode cX12_owedMany 26 = .ok (.iadd, 1) := by decide +kernel
theorem dX12_owedMany_27 : decode cX12_owedMany 27 = .ok (.istore_n 1, 1) := by decide +kernel
theorem dX12_owedMany_28 : decode cX12_owedMany 28 = .ok (.iinc 2 1, 3) := by decide +kernel
theorem dX12_owedMany_31 : decode cX12_owedMany 31 = .ok (.goto (-27), 3) := by decide +kernel
theorem dX12_owedMany_34 : decode cX12_owedMany 34 = .ok (.iload_n 1, 1) := by decide +kernel
theorem dX12_owedMany_35 : decode cX12_owedMany 35 = .ok (.ireturn, 1) := by decide +kernel
theorem dX12_person_0 : decode cX12_person 0 = .ok (.iload_n 1, 1) := by decide +kernel
theorem dX12_person_1 : decode cX12_person 1 = .ok (.i2l, 1) := by decide +kernel
theorem dX12_person_2 : decode cX12_person 2 = .ok (.lconst 0, 1) := by decide +kernel
theorem dX12_person_3 : decode cX12_person 3 = .ok (.ldc2_w 164, 3) := by decide +kernel
theorem dX12_person_6 : decode cX12_person 6 = .ok (.invokestatic 70, 3) := by decide +kernel
theorem dX12_person_9 : decode cX12_person 9 = .ok (.ifCond .ne 6, 3) := by decide +kernel
theorem dX12_person_12 : decode cX12_person 12 = .ok (.bipush (-102), 2) := by decide +kernel
theorem dX12_person_14 : decode cX12_person 14 = .ok (.ireturn, 1) := by decide +kernel
theorem dX12_person_15 : decode cX12_person 15 = .ok (.aload_n 0, 1) := by decide +kernel
theorem dX12_person_16 : decode cX12_person 16 = .ok (.invokevirtual 166, 3) := by decide +kernel
theorem dX12_person_19 : decode cX12_person 19 = .ok (.ifCond .eq 6, 3) := by decide +kernel
theorem dX12_person_22 : decode cX12_person 22 = .ok (.bipush (-103), 2) := by decide +kernel
theorem dX12_person_24 : decode cX12_person 24 = .ok (.ireturn, 1) := by decide +kernel
theorem dX12_person_25 : decode cX12_person 25 = .ok (.aload_n 0, 1) := by decide +kernel
theorem dX12_person_26 : decode cX12_person 26 = .ok (.getfield 126, 3) := by decide +kernel
theorem dX12_person_29 : decode cX12_person 29 = .ok (.bipush 6, 2) := by decide +kernel
theorem dX12_person_31 : decode cX12_person 31 = .ok (.if_icmp .ne 6, 3) := by decide +kernel
theorem dX12_person_34 : decode cX12_person 34 = .ok (.bipush (-104), 2) := by decide +kernel
theorem dX12_person_36 : decode cX12_person 36 = .ok (.ireturn, 1) := by decide +kernel
theorem dX12_person_37 : decode cX12_person 37 = .ok (.aload_n 0, 1) := by decide +kernel
theorem dX12_person_38 : decode cX12_person 38 = .ok (.getfield 25, 3) := by decide +kernel
theorem dX12_person_41 : decode cX12_person 41 = .ok (.aload_n 0, 1) := by decide +kernel
theorem dX12_person_42 : decode cX12_person 42 = .ok (.getfield 126, 3) := by decide +kernel
theorem dX12_person_45 : decode cX12_person 45 = .ok (.iload_n 1, 1) := by decide +kernel
theorem dX12_person_46 : decode cX12_person 46 = .ok (.iastore, 1) := by decide +kernel
theorem dX12_person_47 : decode cX12_person 47 = .ok (.aload_n 0, 1) := by decide +kernel
theorem dX12_person_48 : decode cX12_person 48 = .ok (.dup, 1) := by decide +kernel
theorem dX12_person_49 : decode cX12_person 49 = .ok (.getfield 126, 3) := by decide +kernel
theorem dX12_person_52 : decode cX12_person 52 = .ok (.iconst 1, 1) := by decide +kernel
theorem dX12_person_53 : decode cX12_person 53 = .ok (.iadd, 1) := by decide +kernel
theorem dX12_person_54 : decode cX12_person 54 = .ok (.putfield 126, 3) := by decide +kernel
theorem dX12_person_57 : decode cX12_person 57 = .ok (.aload_n 0, 1) := by decide +kernel
theorem dX12_person_58 : decode cX12_person 58 = .ok (.getfield 126, 3) := by decide +kernel
theorem dX12_person_61 : decode cX12_person 61 = .ok (.iconst 1, 1) := by decide +kernel
theorem dX12_person_62 : decode cX12_person 62 = .ok (.isub, 1) := by decide +kernel
theorem dX12_person_63 : decode cX12_person 63 = .ok (.ireturn, 1) := by decide +kernel
theorem dX12_reach_0 : decode cX12_reach 0 = .ok (.aload_n 0, 1) := by decide +kernel
theorem dX12_reach_1 : decode cX12_reach 1 = .ok (.iload_n 1, 1) := by decide +kernel
theorem dX12_reach_2 : decode cX12_reach 2 = .ok (.invokevirtual 193, 3) := by decide +kernel
theorem dX12_reach_5 : decode cX12_reach 5 = .ok (.ifCond .ne 6, 3) := by decide +kernel
theorem dX12_reach_8 : decode cX12_reach 8 = .ok (.bipush (-101), 2) := by decide +kernel
theorem dX12_reach_10 : decode cX12_reach 10 = .ok (.ireturn, 1) := by decide +kernel
theorem dX12_reach_11 : decode cX12_reach 11 = .ok (.aload_n 0, 1) := by decide +kernel
theorem dX12_reach_12 : decode cX12_reach 12 = .ok (.iload_n 1, 1) := by decide +kernel
theorem dX12_reach_13 : decode cX12_reach 13 = .ok (.invokevirtual 174, 3) := by decide +kernel
theorem dX12_reach_16 : decode cX12_reach 16 = .ok (.ifCond .eq 11, 3) := by decide +kernel
theorem dX12_reach_19 : decode cX12_reach 19 = .ok (.aload_n 0, 1) := by decide +kernel
theorem dX12_reach_20 : decode cX12_reach 20 = .ok (.iload_n 1, 1) := by decide +kernel
theorem dX12_reach_21 : decode cX12_reach 21 = .ok (.invokevirtual 231, 3) := by decide +kernel
theorem dX12_reach_24 : decode cX12_reach 24 = .ok (.goto 5, 3) := by decide +kernel
theorem dX12_reach_27 : decode cX12_reach 27 = .ok (.bipush (-103), 2) := by decide +kernel
theorem dX12_reach_29 : decode cX12_reach 29 = .ok (.ireturn, 1) := by decide +kernel
theorem dX12_reachOf_0 : decode cX12_reachOf 0 = .ok (.aload_n 0, 1) := by decide +kernel
theorem dX12_reachOf_1 : decode cX12_reachOf 1 = .ok (.iload_n 1, 1) := by decide +kernel
theorem dX12_reachOf_2 : decode cX12_reachOf 2 = .ok (.invokevirtual 224, 3) := by decide +kernel
theorem dX12_reachOf_5 : decode cX12_reachOf 5 = .ok (.iconst 0, 1) := by decide +kernel
theorem dX12_reachOf_6 : decode cX12_reachOf 6 = .ok (.istore_n 2, 1) := by decide +kernel
theorem dX12_reachOf_7 : decode cX12_reachOf 7 = .ok (.iconst 0, 1) := by decide +kernel
theorem dX12_reachOf_8 : decode cX12_reachOf 8 = .ok (.istore_n 3, 1) := by decide +kernel
theorem dX12_reachOf_9 : decode cX12_reachOf 9 = .ok (.iload_n 3, 1) := by decide +kernel
theorem dX12_reachOf_10 : decode cX12_reachOf 10 = .ok (.aload_n 0, 1) := by decide +kernel
theorem dX12_reachOf_11 : decode cX12_reachOf 11 = .ok (.getfield 126, 3) := by decide +kernel
theorem dX12_reachOf_14 : decode cX12_reachOf 14 = .ok (.if_icmp .ge 26, 3) := by decide +kernel
theorem dX12_reachOf_17 : decode cX12_reachOf 17 = .ok (.iload_n 2, 1) := by decide +kernel
theorem dX12_reachOf_18 : decode cX12_reachOf 18 = .ok (.aload_n 0, 1) := by decide +kernel
theorem dX12_reachOf_19 : decode cX12_reachOf 19 = .ok (.iload_n 3, 1) := by decide +kernel
theorem dX12_reachOf_20 : decode cX12_reachOf 20 = .ok (.invokevirtual 221, 3) := by decide +kernel
theorem dX12_reachOf_23 : decode cX12_reachOf 23 = .ok (.iconst (-1), 1) := by decide +kernel
theorem dX12_reachOf_24 : decode cX12_reachOf 24 = .ok (.if_icmp .ne 7, 3) := by decide +kernel
theorem dX12_reachOf_27 : decode cX12_reachOf 27 = .ok (.iconst 0, 1) := by decide +kernel
theorem dX12_reachOf_28 : decode cX12_reachOf 28 = .ok (.goto 4, 3) := by decide +kernel
theorem dX12_reachOf_31 : decode cX12_reachOf 31 = .ok (.iconst 1, 1) := by decide +kernel
theorem dX12_reachOf_32 : decode cX12_reachOf 32 = .ok (.iadd, 1) := by decide +kernel
theorem dX12_reachOf_33 : decode cX12_reachOf 33 = .ok (.istore_n 2, 1) := by decide +kernel
theorem dX12_reachOf_34 : decode cX12_reachOf 34 = .ok (.iinc 3 1, 3) := by decide +kernel
theorem dX12_reachOf_37 : decode cX12_reachOf 37 = .ok (.goto (-28), 3) := by decide +kernel
theorem dX12_reachOf_40 : decode cX12_reachOf 40 = .ok (.iload_n 2, 1) := by decide +kernel
theorem dX12_reachOf_41 : decode cX12_reachOf 41 = .ok (.ireturn, 1) := by decide +kernel
theorem dX12_restore_0 : decode cX12_restore 0 = .ok (.aload_n 0, 1) := by decide +kernel
theorem dX12_restore_1 : decode cX12_restore 1 = .ok (.getfield 61, 3) := by decide +kernel
theorem dX12_restore_4 : decode cX12_restore 4 = .ok (.aload_n 0, 1) := by decide +kernel
theorem dX12_restore_5 : decode cX12_restore 5 = .ok (.getfield 135, 3) := by decide +kernel
theorem dX12_restore_8 : decode cX12_restore 8 = .ok (.if_icmp .ne 14, 3) := by decide +kernel
theorem dX12_restore_11 : decode cX12_restore 11 = .ok (.aload_n 0, 1) := by decide +kernel
theorem dX12_restore_12 : decode cX12_restore 12 = .ok (.getfield 277, 3) := by decide +kernel
theorem dX12_restore_15 : decode cX12_restore 15 = .ok (.aload_n 0, 1) := by decide +kernel
theorem dX12_restore_16 : decode cX12_restore 16 = .ok (.getfield 126, 3) := by decide +kernel
theorem dX12_restore_19 : decode cX12_restore 19 = .ok (.if_icmp .eq 6, 3) := by decide +kernel
theorem dX12_restore_22 : decode cX12_restore 22 = .ok (.bipush (-103), 2) := by decide +kernel
theorem dX12_restore_24 : decode cX12_restore 24 = .ok (.ireturn, 1) := by decide +kernel
theorem dX12_restore_25 : decode cX12_restore 25 = .ok (.aload_n 0, 1) := by decide +kernel
theorem dX12_restore_26 : decode cX12_restore 26 = .ok (.getfield 55, 3) := by decide +kernel
theorem dX12_restore_29 : decode cX12_restore 29 = .ok (.aload_n 0, 1) := by decide +kernel
theorem dX12_restore_30 : decode cX12_restore 30 = .ok (.getfield 28, 3) := by decide +kernel
theorem dX12_restore_33 : decode cX12_restore 33 = .ok (.invokestatic 261, 3) := by decide +kernel
theorem dX12_restore_36 : decode cX12_restore 36 = .ok (.aload_n 0, 1) := by decide +kernel
theorem dX12_restore_37 : decode cX12_restore 37 = .ok (.getfield 58, 3) := by decide +kernel
theorem dX12_restore_40 : decode cX12_restore 40 = .ok (.aload_n 0, 1) := by decide +kernel
theorem dX12_restore_41 : decode cX12_restore 41 = .ok (.getfield 43, 3) := by decide +kernel
theorem dX12_restore_44 : decode cX12_restore 44 = .ok (.invokestatic 261, 3) := by decide +kernel
theorem dX12_restore_47 : decode cX12_restore 47 = .ok (.aload_n 0, 1) := by decide +kernel
theorem dX12_restore_48 : decode cX12_restore 48 = .ok (.aload_n 0, 1) := by decide +kernel
theorem dX12_restore_49 : decode cX12_restore 49 = .ok (.getfield 280, 3) := by decide +kernel
theorem dX12_restore_52 : decode cX12_restore 52 = .ok (.putfield 129, 3) := by decide +kernel
theorem dX12_restore_55 : decode cX12_restore 55 = .ok (.aload_n 0, 1) := by decide +kernel
theorem dX12_restore_56 : decode cX12_restore 56 = .ok (.aload_n 0, 1) := by decide +kernel
theorem dX12_restore_57 : decode cX12_restore 57 = .ok (.getfield 283, 3) := by decide +kernel
theorem dX12_restore_60 : decode cX12_restore 60 = .ok (.putfield 123, 3) := by decide +kernel
theorem dX12_restore_63 : decode cX12_restore 63 = .ok (.aload_n 0, 1) := by decide +kernel
theorem dX12_restore_64 : decode cX12_restore 64 = .ok (.aload_n 0, 1) := by decide +kernel
theorem dX12_restore_65 : decode cX12_restore 65 = .ok (.getfield 286, 3) := by decide +kernel
theorem dX12_restore_68 : decode cX12_restore 68 = .ok (.putfield 132, 3) := by decide +kernel
theorem dX12_restore_71 : decode cX12_restore 71 = .ok (.aload_n 0, 1) := by decide +kernel
theorem dX12_restore_72 : decode cX12_restore 72 = .ok (.getfield 123, 3) := by decide +kernel
theorem dX12_restore_75 : decode cX12_restore 75 = .ok (.ireturn, 1) := by decide +kernel
theorem dX12_rings_0 : decode cX12_rings 0 = .ok (.aload_n 0, 1) := by decide +kernel
theorem dX12_rings_1 : decode cX12_rings 1 = .ok (.iload_n 1, 1) := by decide +kernel
theorem dX12_rings_2 : decode cX12_rings 2 = .ok (.invokevirtual 138, 3) := by decide +kernel
theorem dX12_rings_5 : decode cX12_rings 5 = .ok (.ifCond .ne 6, 3) := by decide +kernel
theorem dX12_rings_8 : decode cX12_rings 8 = .ok (.bipush (-101), 2) := by decide +kernel
theorem dX12_rings_10 : decode cX12_rings 10 = .ok (.ireturn, 1) := by decide +kernel
theorem dX12_rings_11 : decode cX12_rings 11 = .ok (.iload_n 2, 1) := by decide +kernel
theorem dX12_rings_12 : decode cX12_rings 12 = .ok (.i2l, 1) := by decide +kernel
theorem dX12_rings_13 : decode cX12_rings 13 = .ok (.ldc2_w 234, 3) := by decide +kernel
theorem dX12_rings_16 : decode cX12_rings 16 = .ok (.ldc2_w 236, 3) := by decide +kernel
theorem dX12_rings_19 : decode cX12_rings 19 = .ok (.invokestatic 70, 3) := by decide +kernel
theorem dX12_rings_22 : decode cX12_rings 22 = .ok (.ifCond .eq 12, 3) := by decide +kernel
theorem dX12_rings_25 : decode cX12_rings 25 = .ok (.aload_n 0, 1) := by decide +kernel
theorem dX12_rings_26 : decode cX12_rings 26 = .ok (.iload_n 1, 1) := by decide +kernel
theorem dX12_rings_27 : decode cX12_rings 27 = .ok (.iload_n 2, 1) := by decide +kernel
theorem dX12_rings_28 : decode cX12_rings 28 = .ok (.invokevirtual 238, 3) := by decide +kernel
theorem dX12_rings_31 : decode cX12_rings 31 = .ok (.goto 5, 3) := by decide +kernel
theorem dX12_rings_34 : decode cX12_rings 34 = .ok (.bipush (-102), 2) := by decide +kernel
theorem dX12_rings_36 : decode cX12_rings 36 = .ok (.ireturn, 1) := by decide +kernel
theorem dX12_ringsOf_0 : decode cX12_ringsOf 0 = .ok (.iconst 0, 1) := by decide +kernel
theorem dX12_ringsOf_1 : decode cX12_ringsOf 1 = .ok (.istore_n 3, 1) := by decide +kernel
theorem dX12_ringsOf_2 : decode cX12_ringsOf 2 = .ok (.iload_n 3, 1) := by decide +kernel
theorem dX12_ringsOf_3 : decode cX12_ringsOf 3 = .ok (.bipush 36, 2) := by decide +kernel
theorem dX12_ringsOf_5 : decode cX12_ringsOf 5 = .ok (.if_icmp .ge 52, 3) := by decide +kernel
theorem dX12_ringsOf_8 : decode cX12_ringsOf 8 = .ok (.aload_n 0, 1) := by decide +kernel
theorem dX12_ringsOf_9 : decode cX12_ringsOf 9 = .ok (.getfield 37, 3) := by decide +kernel
theorem dX12_ringsOf_12 : decode cX12_ringsOf 12 = .ok (.iload_n 3, 1) := by decide +kernel
theorem dX12_ringsOf_13 : decode cX12_ringsOf 13 = .ok (.iload_n 3, 1) := by decide +kernel
theorem dX12_ringsOf_14 : decode cX12_ringsOf 14 = .ok (.bipush 6, 2) := by decide +kernel
theorem dX12_ringsOf_16 : decode cX12_ringsOf 16 = .ok (.idiv, 1) := by decide +kernel
theorem dX12_ringsOf_17 : decode cX12_ringsOf 17 = .ok (.iload_n 1, 1) := by decide +kernel
theorem dX12_ringsOf_18 : decode cX12_ringsOf 18 = .ok (.if_icmp .ne 31, 3) := by decide +kernel
theorem dX12_ringsOf_21 : decode cX12_ringsOf 21 = .ok (.iload_n 3, 1) := by decide +kernel
theorem dX12_ringsOf_22 : decode cX12_ringsOf 22 = .ok (.bipush 6, 2) := by decide +kernel
theorem dX12_ringsOf_24 : decode cX12_ringsOf 24 = .ok (.irem, 1) := by decide +kernel
theorem dX12_ringsOf_25 : decode cX12_ringsOf 25 = .ok (.aload_n 0, 1) := by decide +kernel
theorem dX12_ringsOf_26 : decode cX12_ringsOf 26 = .ok (.getfield 126, 3) := by decide +kernel
theorem dX12_ringsOf_29 : decode cX12_ringsOf 29 = .ok (.if_icmp .ge 20, 3) := by decide +kernel
theorem dX12_ringsOf_32 : decode cX12_ringsOf 32 = .ok (.aload_n 0, 1) := by decide +kernel
theorem dX12_ringsOf_33 : decode cX12_ringsOf 33 = .ok (.iconst (-1), 1) := by decide +kernel
theorem dX12_ringsOf_34 : decode cX12_ringsOf 34 = .ok (.iload_n 1, 1) := by decide +kernel
theorem dX12_ringsOf_35 : decode cX12_ringsOf 35 = .ok (.iload_n 3, 1) := by decide +kernel
theorem dX12_ringsOf_36 : decode cX12_ringsOf 36 = .ok (.bipush 6, 2) := by decide +kernel
theorem dX12_ringsOf_38 : decode cX12_ringsOf 38 = .ok (.irem, 1) := by decide +kernel
theorem dX12_ringsOf_39 : decode cX12_ringsOf 39 = .ok (.invokevirtual 189, 3) := by decide +kernel
theorem dX12_ringsOf_42 : decode cX12_ringsOf 42 = .ok (.ifCond .eq 7, 3) := by decide +kernel
theorem dX12_ringsOf_45 : decode cX12_ringsOf 45 = .ok (.iconst 1, 1) := by decide +kernel
theorem dX12_ringsOf_46 : decode cX12_ringsOf 46 = .ok (.goto 4, 3) := by decide +kernel
theorem dX12_ringsOf_49 : decode cX12_ringsOf 49 = .ok (.iconst 0, 1) := by decide +kernel
theorem dX12_ringsOf_50 : decode cX12_ringsOf 50 = .ok (.iastore, 1) := by decide +kernel
theorem dX12_ringsOf_51 : decode cX12_ringsOf 51 = .ok (.iinc 3 1, 3) := by decide +kernel
theorem dX12_ringsOf_54 : decode cX12_ringsOf 54 = .ok (.goto (-52), 3) := by decide +kernel
theorem dX12_ringsOf_57 : decode cX12_ringsOf 57 = .ok (.iconst 1, 1) := by decide +kernel
theorem dX12_ringsOf_58 : decode cX12_ringsOf 58 = .ok (.istore_n 3, 1) := by decide +kernel
theorem dX12_ringsOf_59 : decode cX12_ringsOf 59 = .ok (.iload_n 3, 1) := by decide +kernel
theorem dX12_ringsOf_60 : decode cX12_ringsOf 60 = .ok (.iload_n 2, 1) := by decide +kernel
theorem dX12_ringsOf_61 : decode cX12_ringsOf 61 = .ok (.if_icmp .ge 183, 3) := by decide +kernel
theorem dX12_ringsOf_64 : decode cX12_ringsOf 64 = .ok (.iconst 0, 1) := by decide +kernel
theorem dX12_ringsOf_65 : decode cX12_ringsOf 65 = .ok (.istore 4, 2) := by decide +kernel
theorem dX12_ringsOf_67 : decode cX12_ringsOf 67 = .ok (.iload 4, 2) := by decide +kernel
theorem dX12_ringsOf_69 : decode cX12_ringsOf 69 = .ok (.bipush 36, 2) := by decide +kernel
theorem dX12_ringsOf_71 : decode cX12_ringsOf 71 = .ok (.if_icmp .ge 17, 3) := by decide +kernel
theorem dX12_ringsOf_74 : decode cX12_ringsOf 74 = .ok (.aload_n 0, 1) := by decide +kernel
theorem dX12_ringsOf_75 : decode cX12_ringsOf 75 = .ok (.getfield 40, 3) := by decide +kernel
theorem dX12_ringsOf_78 : decode cX12_ringsOf 78 = .ok (.iload 4, 2) := by decide +kernel
theorem dX12_ringsOf_80 : decode cX12_ringsOf 80 = .ok (.iconst 0, 1) := by decide +kernel
theorem dX12_ringsOf_81 : decode cX12_ringsOf 81 = .ok (.iastore, 1) := by decide +kernel
theorem dX12_ringsOf_82 : decode cX12_ringsOf 82 = .ok (.iinc 4 1, 3) := by decide +kernel
theorem dX12_ringsOf_85 : decode cX12_ringsOf 85 = .ok (.goto (-18), 3) := by decide +kernel
theorem dX12_ringsOf_88 : decode cX12_ringsOf 88 = .ok (.iconst 0, 1) := by decide +kernel
theorem dX12_ringsOf_89 : decode cX12_ringsOf 89 = .ok (.istore 4, 2) := by decide +kernel
theorem dX12_ringsOf_91 : decode cX12_ringsOf 91 = .ok (.iload 4, 2) := by decide +kernel
theorem dX12_ringsOf_93 : decode cX12_ringsOf 93 = .ok (.bipush 36, 2) := by decide +kernel
theorem dX12_ringsOf_95 : decode cX12_ringsOf 95 = .ok (.if_icmp .ge 113, 3) := by decide +kernel
theorem dX12_ringsOf_98 : decode cX12_ringsOf 98 = .ok (.iload 4, 2) := by decide +kernel
theorem dX12_ringsOf_100 : decode cX12_ringsOf 100 = .ok (.bipush 6, 2) := by decide +kernel
theorem dX12_ringsOf_102 : decode cX12_ringsOf 102 = .ok (.irem, 1) := by decide +kernel
theorem dX12_ringsOf_103 : decode cX12_ringsOf 103 = .ok (.istore 5, 2) := by decide +kernel
theorem dX12_ringsOf_105 : decode cX12_ringsOf 105 = .ok (.iconst 0, 1) := by decide +kernel
theorem dX12_ringsOf_106 : decode cX12_ringsOf 106 = .ok (.istore 6, 2) := by decide +kernel
theorem dX12_ringsOf_108 : decode cX12_ringsOf 108 = .ok (.iload 6, 2) := by decide +kernel
theorem dX12_ringsOf_110 : decode cX12_ringsOf 110 = .ok (.aload_n 0, 1) := by decide +kernel
theorem dX12_ringsOf_111 : decode cX12_ringsOf 111 = .ok (.getfield 126, 3) := by decide +kernel
theorem dX12_ringsOf_114 : decode cX12_ringsOf 114 = .ok (.if_icmp .ge 88, 3) := by decide +kernel
theorem dX12_ringsOf_117 : decode cX12_ringsOf 117 = .ok (.aload_n 0, 1) := by decide +kernel
theorem dX12_ringsOf_118 : decode cX12_ringsOf 118 = .ok (.getfield 37, 3) := by decide +kernel
theorem dX12_ringsOf_121 : decode cX12_ringsOf 121 = .ok (.iload 4, 2) := by decide +kernel
theorem dX12_ringsOf_123 : decode cX12_ringsOf 123 = .ok (.iaload, 1) := by decide +kernel
theorem dX12_ringsOf_124 : decode cX12_ringsOf 124 = .ok (.ifCond .le 78, 3) := by decide +kernel
theorem dX12_ringsOf_127 : decode cX12_ringsOf 127 = .ok (.iload 6, 2) := by decide +kernel
theorem dX12_ringsOf_129 : decode cX12_ringsOf 129 = .ok (.iload_n 1, 1) := by decide +kernel
theorem dX12_ringsOf_130 : decode cX12_ringsOf 130 = .ok (.if_icmp .ne 7, 3) := by decide +kernel
theorem dX12_ringsOf_133 : decode cX12_ringsOf 133 = .ok (.iconst 1, 1) := by decide +kernel
theorem dX12_ringsOf_134 : decode cX12_ringsOf 134 = .ok (.goto 4, 3) := by decide +kernel
theorem dX12_ringsOf_137 : decode cX12_ringsOf 137 = .ok (.iconst 0, 1) := by decide +kernel
theorem dX12_ringsOf_138 : decode cX12_ringsOf 138 = .ok (.istore 7, 2) := by decide +kernel
theorem dX12_ringsOf_140 : decode cX12_ringsOf 140 = .ok (.iload 7, 2) := by decide +kernel
theorem dX12_ringsOf_142 : decode cX12_ringsOf 142 = .ok (.iload_n 3, 1) := by decide +kernel
theorem dX12_ringsOf_143 : decode cX12_ringsOf 143 = .ok (.iload_n 2, 1) := by decide +kernel
theorem dX12_ringsOf_144 : decode cX12_ringsOf 144 = .ok (.iconst 1, 1) := by decide +kernel
theorem dX12_ringsOf_145 : decode cX12_ringsOf 145 = .ok (.isub, 1) := by decide +kernel
theorem dX12_ringsOf_146 : decode cX12_ringsOf 146 = .ok (.if_icmp .ne 7, 3) := by decide +kernel
theorem dX12_ringsOf_149 : decode cX12_ringsOf 149 = .ok (.iconst 1, 1) := by decide +kernel
theorem dX12_ringsOf_150 : decode cX12_ringsOf 150 = .ok (.goto 4, 3) := by decide +kernel
theorem dX12_ringsOf_153 : decode cX12_ringsOf 153 = .ok (.iconst 0, 1) := by decide +kernel
theorem dX12_ringsOf_154 : decode cX12_ringsOf 154 = .ok (.if_icmp .ne 42, 3) := by decide +kernel
theorem dX12_ringsOf_157 : decode cX12_ringsOf 157 = .ok (.aload_n 0, 1) := by decide +kernel
theorem dX12_ringsOf_158 : decode cX12_ringsOf 158 = .ok (.iload 4, 2) := by decide +kernel
theorem dX12_ringsOf_160 : decode cX12_ringsOf 160 = .ok (.bipush 6, 2) := by decide +kernel
theorem dX12_ringsOf_162 : decode cX12_ringsOf 162 = .ok (.idiv, 1) := by decide +kernel
theorem dX12_ringsOf_163 : decode cX12_ringsOf 163 = .ok (.iload 5, 2) := by decide +kernel
theorem dX12_ringsOf_165 : decode cX12_ringsOf 165 = .ok (.iload 6, 2) := by decide +kernel
theorem dX12_ringsOf_167 : decode cX12_ringsOf 167 = .ok (.invokevirtual 189, 3) := by decide +kernel
theorem dX12_ringsOf_170 : decode cX12_ringsOf 170 = .ok (.ifCond .eq 26, 3) := by decide +kernel
theorem dX12_ringsOf_173 : decode cX12_ringsOf 173 = .ok (.aload_n 0, 1) := by decide +kernel
theorem dX12_ringsOf_174 : decode cX12_ringsOf 174 = .ok (.getfield 40, 3) := by decide +kernel
theorem dX12_ringsOf_177 : decode cX12_ringsOf 177 = .ok (.bipush 6, 2) := by decide +kernel
theorem dX12_ringsOf_179 : decode cX12_ringsOf 179 = .ok (.iload 5, 2) := by decide +kernel
theorem dX12_ringsOf_181 : decode cX12_ringsOf 181 = .ok (.imul, 1) := by decide +kernel
theorem dX12_ringsOf_182 : decode cX12_ringsOf 182 = .ok (.iload 6, 2) := by decide +kernel
theorem dX12_ringsOf_184 : decode cX12_ringsOf 184 = .ok (.iadd, 1) := by decide +kernel
theorem dX12_ringsOf_185 : decode cX12_ringsOf 185 = .ok (.dup2, 1) := by decide +kernel
theorem dX12_ringsOf_186 : decode cX12_ringsOf 186 = .ok (.iaload, 1) := by decide +kernel
theorem dX12_ringsOf_187 : decode cX12_ringsOf 187 = .ok (.aload_n 0, 1) := by decide +kernel
theorem dX12_ringsOf_188 : decode cX12_ringsOf 188 = .ok (.getfield 37, 3) := by decide +kernel
theorem dX12_ringsOf_191 : decode cX12_ringsOf 191 = .ok (.iload 4, 2) := by decide +kernel
theorem dX12_ringsOf_193 : decode cX12_ringsOf 193 = .ok (.iaload, 1) := by decide +kernel
theorem dX12_ringsOf_194 : decode cX12_ringsOf 194 = .ok (.iadd, 1) := by decide +kernel
theorem dX12_ringsOf_195 : decode cX12_ringsOf 195 = .ok (.iastore, 1) := by decide +kernel
theorem dX12_ringsOf_196 : decode cX12_ringsOf 196 = .ok (.iinc 6 1, 3) := by decide +kernel
theorem dX12_ringsOf_199 : decode cX12_ringsOf 199 = .ok (.goto (-91), 3) := by decide +kernel
theorem dX12_ringsOf_202 : decode cX12_ringsOf 202 = .ok (.iinc 4 1, 3) := by decide +kernel
theorem dX12_ringsOf_205 : decode cX12_ringsOf 205 = .ok (.goto (-114), 3) := by decide +kernel
theorem dX12_ringsOf_208 : decode cX12_ringsOf 208 = .ok (.iconst 0, 1) := by decide +kernel
theorem dX12_ringsOf_209 : decode cX12_ringsOf 209 = .ok (.istore 4, 2) := by decide +kernel
theorem dX12_ringsOf_211 : decode cX12_ringsOf 211 = .ok (.iload 4, 2) := by decide +kernel
theorem dX12_ringsOf_213 : decode cX12_ringsOf 213 = .ok (.bipush 36, 2) := by decide +kernel
theorem dX12_ringsOf_215 : decode cX12_ringsOf 215 = .ok (.if_icmp .ge 23, 3) := by decide +kernel
theorem dX12_ringsOf_218 : decode cX12_ringsOf 218 = .ok (.aload_n 0, 1) := by decide +kernel
theorem dX12_ringsOf_219 : decode cX12_ringsOf 219 = .ok (.getfield 37, 3) := by decide +kernel
theorem dX12_ringsOf_222 : decode cX12_ringsOf 222 = .ok (.iload 4, 2) := by decide +kernel
theorem dX12_ringsOf_224 : decode cX12_ringsOf 224 = .ok (.aload_n 0, 1) := by decide +kernel
theorem dX12_ringsOf_225 : decode cX12_ringsOf 225 = .ok (.getfield 40, 3) := by decide +kernel
theorem dX12_ringsOf_228 : decode cX12_ringsOf 228 = .ok (.iload 4, 2) := by decide +kernel
theorem dX12_ringsOf_230 : decode cX12_ringsOf 230 = .ok (.iaload, 1) := by decide +kernel
theorem dX12_ringsOf_231 : decode cX12_ringsOf 231 = .ok (.iastore, 1) := by decide +kernel
theorem dX12_ringsOf_232 : decode cX12_ringsOf 232 = .ok (.iinc 4 1, 3) := by decide +kernel
theorem dX12_ringsOf_235 : decode cX12_ringsOf 235 = .ok (.goto (-24), 3) := by decide +kernel
theorem dX12_ringsOf_238 : decode cX12_ringsOf 238 = .ok (.iinc 3 1, 3) := by decide +kernel
theorem dX12_ringsOf_241 : decode cX12_ringsOf 241 = .ok (.goto (-182), 3) := by decide +kernel
theorem dX12_ringsOf_244 : decode cX12_ringsOf 244 = .ok (.iconst 0, 1) := by decide +kernel
theorem dX12_ringsOf_245 : decode cX12_ringsOf 245 = .ok (.istore_n 3, 1) := by decide +kernel
theorem dX12_ringsOf_246 : decode cX12_ringsOf 246 = .ok (.iconst 0, 1) := by decide +kernel
theorem dX12_ringsOf_247 : decode cX12_ringsOf 247 = .ok (.istore 4, 2) := by decide +kernel
theorem dX12_ringsOf_249 : decode cX12_ringsOf 249 = .ok (.iload 4, 2) := by decide +kernel
theorem dX12_ringsOf_251 : decode cX12_ringsOf 251 = .ok (.bipush 6, 2) := by decide +kernel
theorem dX12_ringsOf_253 : decode cX12_ringsOf 253 = .ok (.if_icmp .ge 24, 3) := by decide +kernel
theorem dX12_ringsOf_256 : decode cX12_ringsOf 256 = .ok (.iload_n 3, 1) := by decide +kernel
theorem dX12_ringsOf_257 : decode cX12_ringsOf 257 = .ok (.aload_n 0, 1) := by decide +kernel
theorem dX12_ringsOf_258 : decode cX12_ringsOf 258 = .ok (.getfield 37, 3) := by decide +kernel
theorem dX12_ringsOf_261 : decode cX12_ringsOf 261 = .ok (.bipush 6, 2) := by decide +kernel
theorem dX12_ringsOf_263 : decode cX12_ringsOf 263 = .ok (.iload 4, 2) := by decide +kernel
theorem dX12_ringsOf_265 : decode cX12_ringsOf 265 = .ok (.imul, 1) := by decide +kernel
theorem dX12_ringsOf_266 : decode cX12_ringsOf 266 = .ok (.iload_n 1, 1) := by decide +kernel
theorem dX12_ringsOf_267 : decode cX12_ringsOf 267 = .ok (.iadd, 1) := by decide +kernel
theorem dX12_ringsOf_268 : decode cX12_ringsOf 268 = .ok (.iaload, 1) := by decide +kernel
theorem dX12_ringsOf_269 : decode cX12_ringsOf 269 = .ok (.iadd, 1) := by decide +kernel
theorem dX12_ringsOf_270 : decode cX12_ringsOf 270 = .ok (.istore_n 3, 1) := by decide +kernel
theorem dX12_ringsOf_271 : decode cX12_ringsOf 271 = .ok (.iinc 4 1, 3) := by decide +kernel
theorem dX12_ringsOf_274 : decode cX12_ringsOf 274 = .ok (.goto (-25), 3) := by decide +kernel
theorem dX12_ringsOf_277 : decode cX12_ringsOf 277 = .ok (.iload_n 3, 1) := by decide +kernel
theorem dX12_ringsOf_278 : decode cX12_ringsOf 278 = .ok (.ireturn, 1) := by decide +kernel
theorem dX12_say_0 : decode cX12_say 0 = .ok (.aload_n 0, 1) := by decide +kernel
theorem dX12_say_1 : decode cX12_say 1 = .ok (.ldc2_w 292, 3) := by decide +kernel
theorem dX12_say_4 : decode cX12_say 4 = .ok (.aload_n 0, 1) := by decide +kernel
theorem dX12_say_5 : decode cX12_say 5 = .ok (.getfield 294, 3) := by decide +kernel
theorem dX12_say_8 : decode cX12_say 8 = .ok (.lmul, 1) := by decide +kernel
theorem dX12_say_9 : decode cX12_say 9 = .ok (.lload_n 1, 1) := by decide +kernel
theorem dX12_say_10 : decode cX12_say 10 = .ok (.ladd, 1) := by decide +kernel
theorem dX12_say_11 : decode cX12_say 11 = .ok (.putfield 294, 3) := by decide +kernel
theorem dX12_say_14 : decode cX12_say 14 = .ok (.return_, 1) := by decide +kernel
theorem dX12_sayPerson_0 : decode cX12_sayPerson 0 = .ok (.iconst 0, 1) := by decide +kernel
theorem dX12_sayPerson_1 : decode cX12_sayPerson 1 = .ok (.istore_n 2, 1) := by decide +kernel
theorem dX12_sayPerson_2 : decode cX12_sayPerson 2 = .ok (.iload_n 2, 1) := by decide +kernel
theorem dX12_sayPerson_3 : decode cX12_sayPerson 3 = .ok (.bipush 6, 2) := by decide +kernel
theorem dX12_sayPerson_5 : decode cX12_sayPerson 5 = .ok (.if_icmp .ge 20, 3) := by decide +kernel
theorem dX12_sayPerson_8 : decode cX12_sayPerson 8 = .ok (.aload_n 0, 1) := by decide +kernel
theorem dX12_sayPerson_9 : decode cX12_sayPerson 9 = .ok (.aload_n 0, 1) := by decide +kernel
theorem dX12_sayPerson_10 : decode cX12_sayPerson 10 = .ok (.iload_n 1, 1) := by decide +kernel
theorem dX12_sayPerson_11 : decode cX12_sayPerson 11 = .ok (.iload_n 2, 1) := by decide +kernel
theorem dX12_sayPerson_12 : decode cX12_sayPerson 12 = .ok (.invokevirtual 183, 3) := by decide +kernel
theorem dX12_sayPerson_15 : decode cX12_sayPerson 15 = .ok (.i2l, 1) := by decide +kernel
theorem dX12_sayPerson_16 : decode cX12_sayPerson 16 = .ok (.invokevirtual 298, 3) := by decide +kernel
theorem dX12_sayPerson_19 : decode cX12_sayPerson 19 = .ok (.iinc 2 1, 3) := by decide +kernel
theorem dX12_sayPerson_22 : decode cX12_sayPerson 22 = .ok (.goto (-20), 3) := by decide +kernel
theorem dX12_sayPerson_25 : decode cX12_sayPerson 25 = .ok (.iconst 0, 1) := by decide +kernel
theorem dX12_sayPerson_26 : decode cX12_sayPerson 26 = .ok (.istore_n 2, 1) := by decide +kernel
theorem dX12_sayPerson_27 : decode cX12_sayPerson 27 = .ok (.iload_n 2, 1) := by decide +kernel
theorem dX12_sayPerson_28 : decode cX12_sayPerson 28 = .ok (.aload_n 0, 1) := by decide +kernel
theorem dX12_sayPerson_29 : decode cX12_sayPerson 29 = .ok (.getfield 126, 3) := by decide +kernel
theorem dX12_sayPerson_32 : decode cX12_sayPerson 32 = .ok (.if_icmp .ge 25, 3) := by decide +kernel
theorem dX12_sayPerson_35 : decode cX12_sayPerson 35 = .ok (.iload_n 2, 1) := by decide +kernel
theorem dX12_sayPerson_36 : decode cX12_sayPerson 36 = .ok (.iload_n 1, 1) := by decide +kernel
theorem dX12_sayPerson_37 : decode cX12_sayPerson 37 = .ok (.if_icmp .eq 14, 3) := by decide +kernel
theorem dX12_sayPerson_40 : decode cX12_sayPerson 40 = .ok (.aload_n 0, 1) := by decide +kernel
theorem dX12_sayPerson_41 : decode cX12_sayPerson 41 = .ok (.aload_n 0, 1) := by decide +kernel
theorem dX12_sayPerson_42 : decode cX12_sayPerson 42 = .ok (.iload_n 1, 1) := by decide +kernel
theorem dX12_sayPerson_43 : decode cX12_sayPerson 43 = .ok (.iload_n 2, 1) := by decide +kernel
theorem dX12_sayPerson_44 : decode cX12_sayPerson 44 = .ok (.invokevirtual 160, 3) := by decide +kernel
theorem dX12_sayPerson_47 : decode cX12_sayPerson 47 = .ok (.i2l, 1) := by decide +kernel
theorem dX12_sayPerson_48 : decode cX12_sayPerson 48 = .ok (.invokevirtual 298, 3) := by decide +kernel
theorem dX12_sayPerson_51 : decode cX12_sayPerson 51 = .ok (.iinc 2 1, 3) := by decide +kernel
theorem dX12_sayPerson_54 : decode cX12_sayPerson 54 = .ok (.goto (-27), 3) := by decide +kernel
theorem dX12_sayPerson_57 : decode cX12_sayPerson 57 = .ok (.aload_n 0, 1) := by decide +kernel
theorem dX12_sayPerson_58 : decode cX12_sayPerson 58 = .ok (.aload_n 0, 1) := by decide +kernel
theorem dX12_sayPerson_59 : decode cX12_sayPerson 59 = .ok (.iload_n 1, 1) := by decide +kernel
theorem dX12_sayPerson_60 : decode cX12_sayPerson 60 = .ok (.iconst 2, 1) := by decide +kernel
theorem dX12_sayPerson_61 : decode cX12_sayPerson 61 = .ok (.invokevirtual 238, 3) := by decide +kernel
theorem dX12_sayPerson_64 : decode cX12_sayPerson 64 = .ok (.i2l, 1) := by decide +kernel
theorem dX12_sayPerson_65 : decode cX12_sayPerson 65 = .ok (.invokevirtual 298, 3) := by decide +kernel
theorem dX12_sayPerson_68 : decode cX12_sayPerson 68 = .ok (.aload_n 0, 1) := by decide +kernel
theorem dX12_sayPerson_69 : decode cX12_sayPerson 69 = .ok (.aload_n 0, 1) := by decide +kernel
theorem dX12_sayPerson_70 : decode cX12_sayPerson 70 = .ok (.iload_n 1, 1) := by decide +kernel
theorem dX12_sayPerson_71 : decode cX12_sayPerson 71 = .ok (.iconst 3, 1) := by decide +kernel
theorem dX12_sayPerson_72 : decode cX12_sayPerson 72 = .ok (.invokevirtual 238, 3) := by decide +kernel
theorem dX12_sayPerson_75 : decode cX12_sayPerson 75 = .ok (.i2l, 1) := by decide +kernel
theorem dX12_sayPerson_76 : decode cX12_sayPerson 76 = .ok (.invokevirtual 298, 3) := by decide +kernel
theorem dX12_sayPerson_79 : decode cX12_sayPerson 79 = .ok (.return_, 1) := by decide +kernel
theorem dX12_sure_0 : decode cX12_sure 0 = .ok (.iload_n 1, 1) := by decide +kernel
theorem dX12_sure_1 : decode cX12_sure 1 = .ok (.i2l, 1) := by decide +kernel
theorem dX12_sure_2 : decode cX12_sure 2 = .ok (.lconst 0, 1) := by decide +kernel
theorem dX12_sure_3 : decode cX12_sure 3 = .ok (.aload_n 0, 1) := by decide +kernel
theorem dX12_sure_4 : decode cX12_sure 4 = .ok (.getfield 132, 3) := by decide +kernel
theorem dX12_sure_7 : decode cX12_sure 7 = .ok (.iconst 1, 1) := by decide +kernel
theorem dX12_sure_8 : decode cX12_sure 8 = .ok (.isub, 1) := by decide +kernel
theorem dX12_sure_9 : decode cX12_sure 9 = .ok (.i2l, 1) := by decide +kernel
theorem dX12_sure_10 : decode cX12_sure 10 = .ok (.invokestatic 70, 3) := by decide +kernel
theorem dX12_sure_13 : decode cX12_sure 13 = .ok (.ifCond .ne 6, 3) := by decide +kernel
theorem dX12_sure_16 : decode cX12_sure 16 = .ok (.bipush (-101), 2) := by decide +kernel
theorem dX12_sure_18 : decode cX12_sure 18 = .ok (.ireturn, 1) := by decide +kernel
theorem dX12_sure_19 : decode cX12_sure 19 = .ok (.aload_n 0, 1) := by decide +kernel
theorem dX12_sure_20 : decode cX12_sure 20 = .ok (.invokevirtual 244, 3) := by decide +kernel
theorem dX12_sure_23 : decode cX12_sure 23 = .ok (.istore_n 2, 1) := by decide +kernel
theorem dX12_sure_24 : decode cX12_sure 24 = .ok (.iconst 0, 1) := by decide +kernel
theorem dX12_sure_25 : decode cX12_sure 25 = .ok (.istore_n 3, 1) := by decide +kernel
theorem dX12_sure_26 : decode cX12_sure 26 = .ok (.iload_n 3, 1) := by decide +kernel
theorem dX12_sure_27 : decode cX12_sure 27 = .ok (.bipush 6, 2) := by decide +kernel
theorem dX12_sure_29 : decode cX12_sure 29 = .ok (.if_icmp .ge 23, 3) := by decide +kernel
theorem dX12_sure_32 : decode cX12_sure 32 = .ok (.aload_n 0, 1) := by decide +kernel
theorem dX12_sure_33 : decode cX12_sure 33 = .ok (.getfield 49, 3) := by decide +kernel
theorem dX12_sure_36 : decode cX12_sure 36 = .ok (.iload_n 1, 1) := by decide +kernel
theorem dX12_sure_37 : decode cX12_sure 37 = .ok (.iaload, 1) := by decide +kernel
theorem dX12_sure_38 : decode cX12_sure 38 = .ok (.iconst 1, 1) := by decide +kernel
theorem dX12_sure_39 : decode cX12_sure 39 = .ok (.iload_n 3, 1) := by decide +kernel
theorem dX12_sure_40 : decode cX12_sure 40 = .ok (.ishl, 1) := by decide +kernel
theorem dX12_sure_41 : decode cX12_sure 41 = .ok (.if_icmp .ne 5, 3) := by decide +kernel
theorem dX12_sure_44 : decode cX12_sure 44 = .ok (.iload_n 3, 1) := by decide +kernel
theorem dX12_sure_45 : decode cX12_sure 45 = .ok (.ireturn, 1) := by decide +kernel
theorem dX12_sure_46 : decode cX12_sure 46 = .ok (.iinc 3 1, 3) := by decide +kernel
theorem dX12_sure_49 : decode cX12_sure 49 = .ok (.goto (-23), 3) := by decide +kernel
theorem dX12_sure_52 : decode cX12_sure 52 = .ok (.iconst (-1), 1) := by decide +kernel
theorem dX12_sure_53 : decode cX12_sure 53 = .ok (.ireturn, 1) := by decide +kernel
theorem dX12_tell_0 : decode cX12_tell 0 = .ok (.iload_n 2, 1) := by decide +kernel
theorem dX12_tell_1 : decode cX12_tell 1 = .ok (.tableswitch 59 0 5 #[39, 46, 46, 46, 46, 53], 39) := by decide +kernel
theorem dX12_tell_40 : decode cX12_tell 40 = .ok (.aload_n 0, 1) := by decide +kernel
theorem dX12_tell_41 : decode cX12_tell 41 = .ok (.getfield 25, 3) := by decide +kernel
theorem dX12_tell_44 : decode cX12_tell 44 = .ok (.iload_n 1, 1) := by decide +kernel
theorem dX12_tell_45 : decode cX12_tell 45 = .ok (.iaload, 1) := by decide +kernel
theorem dX12_tell_46 : decode cX12_tell 46 = .ok (.ireturn, 1) := by decide +kernel
theorem dX12_tell_47 : decode cX12_tell 47 = .ok (.aload_n 0, 1) := by decide +kernel
theorem dX12_tell_48 : decode cX12_tell 48 = .ok (.iload_n 1, 1) := by decide +kernel
theorem dX12_tell_49 : decode cX12_tell 49 = .ok (.iload_n 2, 1) := by decide +kernel
theorem dX12_tell_50 : decode cX12_tell 50 = .ok (.invokevirtual 180, 3) := by decide +kernel
theorem dX12_tell_53 : decode cX12_tell 53 = .ok (.ireturn, 1) := by decide +kernel
theorem dX12_tell_54 : decode cX12_tell 54 = .ok (.aload_n 0, 1) := by decide +kernel
theorem dX12_tell_55 : decode cX12_tell 55 = .ok (.iload_n 1, 1) := by decide +kernel
theorem dX12_tell_56 : decode cX12_tell 56 = .ok (.invokevirtual 170, 3) := by decide +kernel
theorem dX12_tell_59 : decode cX12_tell 59 = .ok (.ireturn, 1) := by decide +kernel
theorem dX12_tell_60 : decode cX12_tell 60 = .ok (.bipush (-102), 2) := by decide +kernel
theorem dX12_tell_62 : decode cX12_tell 62 = .ok (.ireturn, 1) := by decide +kernel
theorem dX12_tellDeed_0 : decode cX12_tellDeed 0 = .ok (.iload_n 2, 1) := by decide +kernel
theorem dX12_tellDeed_1 : decode cX12_tellDeed 1 = .ok (.tableswitch 83 0 7 #[47, 47, 47, 47, 47, 47, 59, 65], 47) := by decide +kernel
theorem dX12_tellDeed_48 : decode cX12_tellDeed 48 = .ok (.aload_n 0, 1) := by decide +kernel
theorem dX12_tellDeed_49 : decode cX12_tellDeed 49 = .ok (.getfield 28, 3) := by decide +kernel
theorem dX12_tellDeed_52 : decode cX12_tellDeed 52 = .ok (.bipush 6, 2) := by decide +kernel
theorem dX12_tellDeed_54 : decode cX12_tellDeed 54 = .ok (.iload_n 1, 1) := by decide +kernel
theorem dX12_tellDeed_55 : decode cX12_tellDeed 55 = .ok (.imul, 1) := by decide +kernel
theorem dX12_tellDeed_56 : decode cX12_tellDeed 56 = .ok (.iload_n 2, 1) := by decide +kernel
theorem dX12_tellDeed_57 : decode cX12_tellDeed 57 = .ok (.iadd, 1) := by decide +kernel
theorem dX12_tellDeed_58 : decode cX12_tellDeed 58 = .ok (.iaload, 1) := by decide +kernel
theorem dX12_tellDeed_59 : decode cX12_tellDeed 59 = .ok (.ireturn, 1) := by decide +kernel
theorem dX12_tellDeed_60 : decode cX12_tellDeed 60 = .ok (.aload_n 0, 1) := by decide +kernel
theorem dX12_tellDeed_61 : decode cX12_tellDeed 61 = .ok (.iload_n 1, 1) := by decide +kernel
theorem dX12_tellDeed_62 : decode cX12_tellDeed 62 = .ok (.invokevirtual 209, 3) := by decide +kernel
theorem dX12_tellDeed_65 : decode cX12_tellDeed 65 = .ok (.ireturn, 1) := by decide +kernel
theorem dX12_tellDeed_66 : decode cX12_tellDeed 66 = .ok (.aload_n 0, 1) := by decide +kernel
theorem dX12_tellDeed_67 : decode cX12_tellDeed 67 = .ok (.aload_n 0, 1) := by decide +kernel
theorem dX12_tellDeed_68 : decode cX12_tellDeed 68 = .ok (.iload_n 1, 1) := by decide +kernel
theorem dX12_tellDeed_69 : decode cX12_tellDeed 69 = .ok (.invokevirtual 212, 3) := by decide +kernel
theorem dX12_tellDeed_72 : decode cX12_tellDeed 72 = .ok (.invokevirtual 215, 3) := by decide +kernel
theorem dX12_tellDeed_75 : decode cX12_tellDeed 75 = .ok (.ifCond .eq 7, 3) := by decide +kernel
theorem dX12_tellDeed_78 : decode cX12_tellDeed 78 = .ok (.iconst 1, 1) := by decide +kernel
theorem dX12_tellDeed_79 : decode cX12_tellDeed 79 = .ok (.goto 4, 3) := by decide +kernel
theorem dX12_tellDeed_82 : decode cX12_tellDeed 82 = .ok (.iconst 0, 1) := by decide +kernel
theorem dX12_tellDeed_83 : decode cX12_tellDeed 83 = .ok (.ireturn, 1) := by decide +kernel
theorem dX12_tellDeed_84 : decode cX12_tellDeed 84 = .ok (.bipush (-102), 2) := by decide +kernel
theorem dX12_tellDeed_86 : decode cX12_tellDeed 86 = .ok (.ireturn, 1) := by decide +kernel
theorem dX12_termOf_0 : decode cX12_termOf 0 = .ok (.aload_n 0, 1) := by decide +kernel
theorem dX12_termOf_1 : decode cX12_termOf 1 = .ok (.getfield 25, 3) := by decide +kernel
theorem dX12_termOf_4 : decode cX12_termOf 4 = .ok (.iload_n 1, 1) := by decide +kernel
theorem dX12_termOf_5 : decode cX12_termOf 5 = .ok (.iaload, 1) := by decide +kernel
theorem dX12_termOf_6 : decode cX12_termOf 6 = .ok (.iconst 4, 1) := by decide +kernel
theorem dX12_termOf_7 : decode cX12_termOf 7 = .ok (.if_icmp .ne 12, 3) := by decide +kernel
theorem dX12_termOf_10 : decode cX12_termOf 10 = .ok (.iconst 2, 1) := by decide +kernel
theorem dX12_termOf_11 : decode cX12_termOf 11 = .ok (.aload_n 0, 1) := by decide +kernel
theorem dX12_termOf_12 : decode cX12_termOf 12 = .ok (.getfield 114, 3) := by decide +kernel
theorem dX12_termOf_15 : decode cX12_termOf 15 = .ok (.imul, 1) := by decide +kernel
theorem dX12_termOf_16 : decode cX12_termOf 16 = .ok (.goto 7, 3) := by decide +kernel
theorem dX12_termOf_19 : decode cX12_termOf 19 = .ok (.aload_n 0, 1) := by decide +kernel
theorem dX12_termOf_20 : decode cX12_termOf 20 = .ok (.getfield 114, 3) := by decide +kernel
theorem dX12_termOf_23 : decode cX12_termOf 23 = .ok (.ireturn, 1) := by decide +kernel
theorem dX12_thanks_0 : decode cX12_thanks 0 = .ok (.iload_n 1, 1) := by decide +kernel
theorem dX12_thanks_1 : decode cX12_thanks 1 = .ok (.iconst (-1), 1) := by decide +kernel
theorem dX12_thanks_2 : decode cX12_thanks 2 = .ok (.if_icmp .eq 14, 3) := by decide +kernel
theorem dX12_thanks_5 : decode cX12_thanks 5 = .ok (.aload_n 0, 1) := by decide +kernel
theorem dX12_thanks_6 : decode cX12_thanks 6 = .ok (.iload_n 1, 1) := by decide +kernel
theorem dX12_thanks_7 : decode cX12_thanks 7 = .ok (.invokevirtual 138, 3) := by decide +kernel
theorem dX12_thanks_10 : decode cX12_thanks 10 = .ok (.ifCond .ne 6, 3) := by decide +kernel
theorem dX12_thanks_13 : decode cX12_thanks 13 = .ok (.bipush (-101), 2) := by decide +kernel
theorem dX12_thanks_15 : decode cX12_thanks 15 = .ok (.ireturn, 1) := by decide +kernel
theorem dX12_thanks_16 : decode cX12_thanks 16 = .ok (.aload_n 0, 1) := by decide +kernel
theorem dX12_thanks_17 : decode cX12_thanks 17 = .ok (.getfield 132, 3) := by decide +kernel
theorem dX12_thanks_20 : decode cX12_thanks 20 = .ok (.bipush 7, 2) := by decide +kernel
theorem dX12_thanks_22 : decode cX12_thanks 22 = .ok (.if_icmp .ne 6, 3) := by decide +kernel
theorem dX12_thanks_25 : decode cX12_thanks 25 = .ok (.bipush (-104), 2) := by decide +kernel
theorem dX12_thanks_27 : decode cX12_thanks 27 = .ok (.ireturn, 1) := by decide +kernel
theorem dX12_thanks_28 : decode cX12_thanks 28 = .ok (.aload_n 0, 1) := by decide +kernel
theorem dX12_thanks_29 : decode cX12_thanks 29 = .ok (.getfield 43, 3) := by decide +kernel
theorem dX12_thanks_32 : decode cX12_thanks 32 = .ok (.aload_n 0, 1) := by decide +kernel
theorem dX12_thanks_33 : decode cX12_thanks 33 = .ok (.getfield 132, 3) := by decide +kernel
theorem dX12_thanks_36 : decode cX12_thanks 36 = .ok (.iload_n 1, 1) := by decide +kernel
theorem dX12_thanks_37 : decode cX12_thanks 37 = .ok (.iastore, 1) := by decide +kernel
theorem dX12_thanks_38 : decode cX12_thanks 38 = .ok (.aload_n 0, 1) := by decide +kernel
theorem dX12_thanks_39 : decode cX12_thanks 39 = .ok (.dup, 1) := by decide +kernel
theorem dX12_thanks_40 : decode cX12_thanks 40 = .ok (.getfield 132, 3) := by decide +kernel
theorem dX12_thanks_43 : decode cX12_thanks 43 = .ok (.iconst 1, 1) := by decide +kernel
theorem dX12_thanks_44 : decode cX12_thanks 44 = .ok (.iadd, 1) := by decide +kernel
theorem dX12_thanks_45 : decode cX12_thanks 45 = .ok (.putfield 132, 3) := by decide +kernel
theorem dX12_thanks_48 : decode cX12_thanks 48 = .ok (.aload_n 0, 1) := by decide +kernel
theorem dX12_thanks_49 : decode cX12_thanks 49 = .ok (.getfield 132, 3) := by decide +kernel
theorem dX12_thanks_52 : decode cX12_thanks 52 = .ok (.ireturn, 1) := by decide +kernel
theorem dX12_way_0 : decode cX12_way 0 = .ok (.aload_n 0, 1) := by decide +kernel
theorem dX12_way_1 : decode cX12_way 1 = .ok (.iload_n 1, 1) := by decide +kernel
theorem dX12_way_2 : decode cX12_way 2 = .ok (.invokevirtual 193, 3) := by decide +kernel
theorem dX12_way_5 : decode cX12_way 5 = .ok (.ifCond .eq 11, 3) := by decide +kernel
theorem dX12_way_8 : decode cX12_way 8 = .ok (.aload_n 0, 1) := by decide +kernel
theorem dX12_way_9 : decode cX12_way 9 = .ok (.iload_n 2, 1) := by decide +kernel
theorem dX12_way_10 : decode cX12_way 10 = .ok (.invokevirtual 138, 3) := by decide +kernel
theorem dX12_way_13 : decode cX12_way 13 = .ok (.ifCond .ne 6, 3) := by decide +kernel
theorem dX12_way_16 : decode cX12_way 16 = .ok (.bipush (-101), 2) := by decide +kernel
theorem dX12_way_18 : decode cX12_way 18 = .ok (.ireturn, 1) := by decide +kernel
theorem dX12_way_19 : decode cX12_way 19 = .ok (.iload_n 3, 1) := by decide +kernel
theorem dX12_way_20 : decode cX12_way 20 = .ok (.i2l, 1) := by decide +kernel
theorem dX12_way_21 : decode cX12_way 21 = .ok (.lconst 0, 1) := by decide +kernel
theorem dX12_way_22 : decode cX12_way 22 = .ok (.lconst 1, 1) := by decide +kernel
theorem dX12_way_23 : decode cX12_way 23 = .ok (.invokestatic 70, 3) := by decide +kernel
theorem dX12_way_26 : decode cX12_way 26 = .ok (.ifCond .ne 6, 3) := by decide +kernel
theorem dX12_way_29 : decode cX12_way 29 = .ok (.bipush (-102), 2) := by decide +kernel
theorem dX12_way_31 : decode cX12_way 31 = .ok (.ireturn, 1) := by decide +kernel
theorem dX12_way_32 : decode cX12_way 32 = .ok (.aload_n 0, 1) := by decide +kernel
theorem dX12_way_33 : decode cX12_way 33 = .ok (.iload_n 1, 1) := by decide +kernel
theorem dX12_way_34 : decode cX12_way 34 = .ok (.invokevirtual 174, 3) := by decide +kernel
theorem dX12_way_37 : decode cX12_way 37 = .ok (.ifCond .ne 6, 3) := by decide +kernel
theorem dX12_way_40 : decode cX12_way 40 = .ok (.bipush (-103), 2) := by decide +kernel
theorem dX12_way_42 : decode cX12_way 42 = .ok (.ireturn, 1) := by decide +kernel
theorem dX12_way_43 : decode cX12_way 43 = .ok (.aload_n 0, 1) := by decide +kernel
theorem dX12_way_44 : decode cX12_way 44 = .ok (.iload_n 1, 1) := by decide +kernel
theorem dX12_way_45 : decode cX12_way 45 = .ok (.invokevirtual 224, 3) := by decide +kernel
theorem dX12_way_48 : decode cX12_way 48 = .ok (.iload_n 3, 1) := by decide +kernel
theorem dX12_way_49 : decode cX12_way 49 = .ok (.ifCond .ne 11, 3) := by decide +kernel
theorem dX12_way_52 : decode cX12_way 52 = .ok (.aload_n 0, 1) := by decide +kernel
theorem dX12_way_53 : decode cX12_way 53 = .ok (.iload_n 2, 1) := by decide +kernel
theorem dX12_way_54 : decode cX12_way 54 = .ok (.invokevirtual 221, 3) := by decide +kernel
theorem dX12_way_57 : decode cX12_way 57 = .ok (.goto 8, 3) := by decide +kernel
theorem dX12_way_60 : decode cX12_way 60 = .ok (.aload_n 0, 1) := by decide +kernel
theorem dX12_way_61 : decode cX12_way 61 = .ok (.iload_n 2, 1) := by decide +kernel
theorem dX12_way_62 : decode cX12_way 62 = .ok (.invokevirtual 228, 3) := by decide +kernel
theorem dX12_way_65 : decode cX12_way 65 = .ok (.ireturn, 1) := by decide +kernel
theorem dX12_week_0 : decode cX12_week 0 = .ok (.aload_n 0, 1) := by decide +kernel
theorem dX12_week_1 : decode cX12_week 1 = .ok (.invokevirtual 166, 3) := by decide +kernel
theorem dX12_week_4 : decode cX12_week 4 = .ok (.ifCond .eq 6, 3) := by decide +kernel
theorem dX12_week_7 : decode cX12_week 7 = .ok (.bipush (-103), 2) := by decide +kernel
theorem dX12_week_9 : decode cX12_week 9 = .ok (.ireturn, 1) := by decide +kernel
theorem dX12_week_10 : decode cX12_week 10 = .ok (.aload_n 0, 1) := by decide +kernel
theorem dX12_week_11 : decode cX12_week 11 = .ok (.dup, 1) := by decide +kernel
theorem dX12_week_12 : decode cX12_week 12 = .ok (.getfield 123, 3) := by decide +kernel
theorem dX12_week_15 : decode cX12_week 15 = .ok (.iconst 1, 1) := by decide +kernel
theorem dX12_week_16 : decode cX12_week 16 = .ok (.iadd, 1) := by decide +kernel
theorem dX12_week_17 : decode cX12_week 17 = .ok (.putfield 123, 3) := by decide +kernel
theorem dX12_week_20 : decode cX12_week 20 = .ok (.aload_n 0, 1) := by decide +kernel
theorem dX12_week_21 : decode cX12_week 21 = .ok (.getfield 123, 3) := by decide +kernel
theorem dX12_week_24 : decode cX12_week 24 = .ok (.ireturn, 1) := by decide +kernel
theorem dX12_weeks_0 : decode cX12_weeks 0 = .ok (.iload_n 1, 1) := by decide +kernel
theorem dX12_weeks_1 : decode cX12_weeks 1 = .ok (.i2l, 1) := by decide +kernel
theorem dX12_weeks_2 : decode cX12_weeks 2 = .ok (.lconst 1, 1) := by decide +kernel
theorem dX12_weeks_3 : decode cX12_weeks 3 = .ok (.ldc2_w 257, 3) := by decide +kernel
theorem dX12_weeks_6 : decode cX12_weeks 6 = .ok (.invokestatic 70, 3) := by decide +kernel
theorem dX12_weeks_9 : decode cX12_weeks 9 = .ok (.ifCond .eq 19, 3) := by decide +kernel
theorem dX12_weeks_12 : decode cX12_weeks 12 = .ok (.iload_n 2, 1) := by decide +kernel
theorem dX12_weeks_13 : decode cX12_weeks 13 = .ok (.ifCond .lt 15, 3) := by decide +kernel
theorem dX12_weeks_16 : decode cX12_weeks 16 = .ok (.iload_n 3, 1) := by decide +kernel
theorem dX12_weeks_17 : decode cX12_weeks 17 = .ok (.i2l, 1) := by decide +kernel
theorem dX12_weeks_18 : decode cX12_weeks 18 = .ok (.lconst 0, 1) := by decide +kernel
theorem dX12_weeks_19 : decode cX12_weeks 19 = .ok (.ldc2_w 259, 3) := by decide +kernel
theorem dX12_weeks_22 : decode cX12_weeks 22 = .ok (.invokestatic 70, 3) := by decide +kernel
theorem dX12_weeks_25 : decode cX12_weeks 25 = .ok (.ifCond .ne 6, 3) := by decide +kernel
theorem dX12_weeks_28 : decode cX12_weeks 28 = .ok (.bipush (-102), 2) := by decide +kernel
theorem dX12_weeks_30 : decode cX12_weeks 30 = .ok (.ireturn, 1) := by decide +kernel
theorem dX12_weeks_31 : decode cX12_weeks 31 = .ok (.aload_n 0, 1) := by decide +kernel
theorem dX12_weeks_32 : decode cX12_weeks 32 = .ok (.invokevirtual 166, 3) := by decide +kernel
theorem dX12_weeks_35 : decode cX12_weeks 35 = .ok (.ifCond .eq 6, 3) := by decide +kernel
theorem dX12_weeks_38 : decode cX12_weeks 38 = .ok (.bipush (-103), 2) := by decide +kernel
theorem dX12_weeks_40 : decode cX12_weeks 40 = .ok (.ireturn, 1) := by decide +kernel
theorem dX12_weeks_41 : decode cX12_weeks 41 = .ok (.aload_n 0, 1) := by decide +kernel
theorem dX12_weeks_42 : decode cX12_weeks 42 = .ok (.getfield 28, 3) := by decide +kernel
