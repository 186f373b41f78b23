theorem dX9_fewestLawyers_9 : decode cX9_fewestLawyers 9 = .ok (.aload_n 0, 1) := by decide +kernel
theorem dX9_fewestLawyers_10 : decode cX9_fewestLawyers 10 = .ok (.getfield 15, 3) := by decide +kernel
theorem dX9_fewestLawyers_13 : decode cX9_fewestLawyers 13 = .ok (.getfield 23, 3) := by decide +kernel
theorem dX9_fewestLawyers_16 : decode cX9_fewestLawyers 16 = .ok (.if_icmp .ge 29, 3) := by decide +kernel
theorem dX9_fewestLawyers_19 : decode cX9_fewestLawyers 19 = .ok (.aload_n 0, 1) := by decide +kernel
theorem dX9_fewestLawyers_20 : decode cX9_fewestLawyers 20 = .ok (.getfield 9, 3) := by decide +kernel
theorem dX9_fewestLawyers_23 : decode cX9_fewestLawyers 23 = .ok (.iload_n 2, 1) := by decide +kernel
theorem dX9_fewestLawyers_24 : decode cX9_fewestLawyers 24 = .ok (.aload_n 0, 1) := by decide +kernel
theorem dX9_fewestLawyers_25 : decode cX9_fewestLawyers 25 = .ok (.aload_n 0, 1) := by decide +kernel
theorem dX9_fewestLawyers_26 : decode cX9_fewestLawyers 26 = .ok (.getfield 15, 3) := by decide +kernel
theorem dX9_fewestLawyers_29 : decode cX9_fewestLawyers 29 = .ok (.getfield 29, 3) := by decide +kernel
theorem dX9_fewestLawyers_32 : decode cX9_fewestLawyers 32 = .ok (.iload_n 2, 1) := by decide +kernel
theorem dX9_fewestLawyers_33 : decode cX9_fewestLawyers 33 = .ok (.iaload, 1) := by decide +kernel
theorem dX9_fewestLawyers_34 : decode cX9_fewestLawyers 34 = .ok (.iload_n 1, 1) := by decide +kernel
theorem dX9_fewestLawyers_35 : decode cX9_fewestLawyers 35 = .ok (.invokevirtual 32, 3) := by decide +kernel
theorem dX9_fewestLawyers_38 : decode cX9_fewestLawyers 38 = .ok (.iastore, 1) := by decide +kernel
theorem dX9_fewestLawyers_39 : decode cX9_fewestLawyers 39 = .ok (.iinc 2 1, 3) := by decide +kernel
theorem dX9_fewestLawyers_42 : decode cX9_fewestLawyers 42 = .ok (.goto (-40), 3) := by decide +kernel
theorem dX9_fewestLawyers_45 : decode cX9_fewestLawyers 45 = .ok (.iconst 0, 1) := by decide +kernel
theorem dX9_fewestLawyers_46 : decode cX9_fewestLawyers 46 = .ok (.istore_n 2, 1) := by decide +kernel
theorem dX9_fewestLawyers_47 : decode cX9_fewestLawyers 47 = .ok (.bipush 11, 2) := by decide +kernel
theorem dX9_fewestLawyers_49 : decode cX9_fewestLawyers 49 = .ok (.istore_n 3, 1) := by decide +kernel
theorem dX9_fewestLawyers_50 : decode cX9_fewestLawyers 50 = .ok (.iconst 1, 1) := by decide +kernel
theorem dX9_fewestLawyers_51 : decode cX9_fewestLawyers 51 = .ok (.aload_n 0, 1) := by decide +kernel
theorem dX9_fewestLawyers_52 : decode cX9_fewestLawyers 52 = .ok (.getfield 15, 3) := by decide +kernel
theorem dX9_fewestLawyers_55 : decode cX9_fewestLawyers 55 = .ok (.getfield 36, 3) := by decide +kernel
theorem dX9_fewestLawyers_58 : decode cX9_fewestLawyers 58 = .ok (.iconst 1, 1) := by decide +kernel
theorem dX9_fewestLawyers_59 : decode cX9_fewestLawyers 59 = .ok (.iadd, 1) := by decide +kernel
theorem dX9_fewestLawyers_60 : decode cX9_fewestLawyers 60 = .ok (.iconst 0, 1) := by decide +kernel
theorem dX9_fewestLawyers_61 : decode cX9_fewestLawyers 61 = .ok (.bipush 10, 2) := by decide +kernel
theorem dX9_fewestLawyers_63 : decode cX9_fewestLawyers 63 = .ok (.invokestatic 39, 3) := by decide +kernel
theorem dX9_fewestLawyers_66 : decode cX9_fewestLawyers 66 = .ok (.ishl, 1) := by decide +kernel
theorem dX9_fewestLawyers_67 : decode cX9_fewestLawyers 67 = .ok (.istore 4, 2) := by decide +kernel
theorem dX9_fewestLawyers_69 : decode cX9_fewestLawyers 69 = .ok (.iconst 0, 1) := by decide +kernel
theorem dX9_fewestLawyers_70 : decode cX9_fewestLawyers 70 = .ok (.istore 5, 2) := by decide +kernel
theorem dX9_fewestLawyers_72 : decode cX9_fewestLawyers 72 = .ok (.iload 5, 2) := by decide +kernel
theorem dX9_fewestLawyers_74 : decode cX9_fewestLawyers 74 = .ok (.iload 4, 2) := by decide +kernel
theorem dX9_fewestLawyers_76 : decode cX9_fewestLawyers 76 = .ok (.if_icmp .ge 37, 3) := by decide +kernel
theorem dX9_fewestLawyers_79 : decode cX9_fewestLawyers 79 = .ok (.iload 5, 2) := by decide +kernel
theorem dX9_fewestLawyers_81 : decode cX9_fewestLawyers 81 = .ok (.invokestatic 43, 3) := by decide +kernel
theorem dX9_fewestLawyers_84 : decode cX9_fewestLawyers 84 = .ok (.istore 6, 2) := by decide +kernel
theorem dX9_fewestLawyers_86 : decode cX9_fewestLawyers 86 = .ok (.iload 6, 2) := by decide +kernel
theorem dX9_fewestLawyers_88 : decode cX9_fewestLawyers 88 = .ok (.iload_n 3, 1) := by decide +kernel
theorem dX9_fewestLawyers_89 : decode cX9_fewestLawyers 89 = .ok (.if_icmp .ge 18, 3) := by decide +kernel
theorem dX9_fewestLawyers_92 : decode cX9_fewestLawyers 92 = .ok (.aload_n 0, 1) := by decide +kernel
theorem dX9_fewestLawyers_93 : decode cX9_fewestLawyers 93 = .ok (.iload 5, 2) := by decide +kernel
theorem dX9_fewestLawyers_95 : decode cX9_fewestLawyers 95 = .ok (.invokevirtual 49, 3) := by decide +kernel
theorem dX9_fewestLawyers_98 : decode cX9_fewestLawyers 98 = .ok (.ifCond .eq 9, 3) := by decide +kernel
theorem dX9_fewestLawyers_101 : decode cX9_fewestLawyers 101 = .ok (.iload 6, 2) := by decide +kernel
theorem dX9_fewestLawyers_103 : decode cX9_fewestLawyers 103 = .ok (.istore_n 3, 1) := by decide +kernel
theorem dX9_fewestLawyers_104 : decode cX9_fewestLawyers 104 = .ok (.iload 5, 2) := by decide +kernel
theorem dX9_fewestLawyers_106 : decode cX9_fewestLawyers 106 = .ok (.istore_n 2, 1) := by decide +kernel
theorem dX9_fewestLawyers_107 : decode cX9_fewestLawyers 107 = .ok (.iinc 5 1, 3) := by decide +kernel
theorem dX9_fewestLawyers_110 : decode cX9_fewestLawyers 110 = .ok (.goto (-38), 3) := by decide +kernel
theorem dX9_fewestLawyers_113 : decode cX9_fewestLawyers 113 = .ok (.aload_n 0, 1) := by decide +kernel
theorem dX9_fewestLawyers_114 : decode cX9_fewestLawyers 114 = .ok (.getfield 19, 3) := by decide +kernel
theorem dX9_fewestLawyers_117 : decode cX9_fewestLawyers 117 = .ok (.iload_n 2, 1) := by decide +kernel
theorem dX9_fewestLawyers_118 : decode cX9_fewestLawyers 118 = .ok (.i2l, 1) := by decide +kernel
theorem dX9_fewestLawyers_119 : decode cX9_fewestLawyers 119 = .ok (.invokevirtual 53, 3) := by decide +kernel
theorem dX9_fewestLawyers_122 : decode cX9_fewestLawyers 122 = .ok (.iload_n 3, 1) := by decide +kernel
theorem dX9_fewestLawyers_123 : decode cX9_fewestLawyers 123 = .ok (.ireturn, 1) := by decide +kernel
theorem dX9_heightsNear_0 : decode cX9_heightsNear 0 = .ok (.iconst 0, 1) := by decide +kernel
theorem dX9_heightsNear_1 : decode cX9_heightsNear 1 = .ok (.istore_n 3, 1) := by decide +kernel
theorem dX9_heightsNear_2 : decode cX9_heightsNear 2 = .ok (.iconst 0, 1) := by decide +kernel
theorem dX9_heightsNear_3 : decode cX9_heightsNear 3 = .ok (.istore 4, 2) := by decide +kernel
theorem dX9_heightsNear_5 : decode cX9_heightsNear 5 = .ok (.iload 4, 2) := by decide +kernel
theorem dX9_heightsNear_7 : decode cX9_heightsNear 7 = .ok (.bipush 9, 2) := by decide +kernel
theorem dX9_heightsNear_9 : decode cX9_heightsNear 9 = .ok (.if_icmp .gt 27, 3) := by decide +kernel
theorem dX9_heightsNear_12 : decode cX9_heightsNear 12 = .ok (.iload 4, 2) := by decide +kernel
theorem dX9_heightsNear_14 : decode cX9_heightsNear 14 = .ok (.iload_n 1, 1) := by decide +kernel
theorem dX9_heightsNear_15 : decode cX9_heightsNear 15 = .ok (.isub, 1) := by decide +kernel
theorem dX9_heightsNear_16 : decode cX9_heightsNear 16 = .ok (.invokestatic 59, 3) := by decide +kernel
theorem dX9_heightsNear_19 : decode cX9_heightsNear 19 = .ok (.iload_n 2, 1) := by decide +kernel
theorem dX9_heightsNear_20 : decode cX9_heightsNear 20 = .ok (.if_icmp .gt 10, 3) := by decide +kernel
theorem dX9_heightsNear_23 : decode cX9_heightsNear 23 = .ok (.iload_n 3, 1) := by decide +kernel
theorem dX9_heightsNear_24 : decode cX9_heightsNear 24 = .ok (.iconst 1, 1) := by decide +kernel
theorem dX9_heightsNear_25 : decode cX9_heightsNear 25 = .ok (.iload 4, 2) := by decide +kernel
theorem dX9_heightsNear_27 : decode cX9_heightsNear 27 = .ok (.ishl, 1) := by decide +kernel
theorem dX9_heightsNear_28 : decode cX9_heightsNear 28 = .ok (.ior, 1) := by decide +kernel
theorem dX9_heightsNear_29 : decode cX9_heightsNear 29 = .ok (.istore_n 3, 1) := by decide +kernel
theorem dX9_heightsNear_30 : decode cX9_heightsNear 30 = .ok (.iinc 4 1, 3) := by decide +kernel
theorem dX9_heightsNear_33 : decode cX9_heightsNear 33 = .ok (.goto (-28), 3) := by decide +kernel
theorem dX9_heightsNear_36 : decode cX9_heightsNear 36 = .ok (.iload_n 3, 1) := by decide +kernel
theorem dX9_heightsNear_37 : decode cX9_heightsNear 37 = .ok (.ireturn, 1) := by decide +kernel
theorem dX9_reachesAll_0 : decode cX9_reachesAll 0 = .ok (.iconst 0, 1) := by decide +kernel
theorem dX9_reachesAll_1 : decode cX9_reachesAll 1 = .ok (.istore_n 2, 1) := by decide +kernel
theorem dX9_reachesAll_2 : decode cX9_reachesAll 2 = .ok (.iload_n 2, 1) := by decide +kernel
theorem dX9_reachesAll_3 : decode cX9_reachesAll 3 = .ok (.bipush 7, 2) := by decide +kernel
theorem dX9_reachesAll_5 : decode cX9_reachesAll 5 = .ok (.if_icmp .ge 33, 3) := by decide +kernel
theorem dX9_reachesAll_8 : decode cX9_reachesAll 8 = .ok (.iload_n 2, 1) := by decide +kernel
theorem dX9_reachesAll_9 : decode cX9_reachesAll 9 = .ok (.aload_n 0, 1) := by decide +kernel
theorem dX9_reachesAll_10 : decode cX9_reachesAll 10 = .ok (.getfield 15, 3) := by decide +kernel
theorem dX9_reachesAll_13 : decode cX9_reachesAll 13 = .ok (.getfield 23, 3) := by decide +kernel
theorem dX9_reachesAll_16 : decode cX9_reachesAll 16 = .ok (.if_icmp .ge 22, 3) := by decide +kernel
theorem dX9_reachesAll_19 : decode cX9_reachesAll 19 = .ok (.aload_n 0, 1) := by decide +kernel
theorem dX9_reachesAll_20 : decode cX9_reachesAll 20 = .ok (.getfield 9, 3) := by decide +kernel
theorem dX9_reachesAll_23 : decode cX9_reachesAll 23 = .ok (.iload_n 2, 1) := by decide +kernel
theorem dX9_reachesAll_24 : decode cX9_reachesAll 24 = .ok (.iaload, 1) := by decide +kernel
theorem dX9_reachesAll_25 : decode cX9_reachesAll 25 = .ok (.iload_n 1, 1) := by decide +kernel
theorem dX9_reachesAll_26 : decode cX9_reachesAll 26 = .ok (.iand, 1) := by decide +kernel
theorem dX9_reachesAll_27 : decode cX9_reachesAll 27 = .ok (.ifCond .ne 5, 3) := by decide +kernel
theorem dX9_reachesAll_30 : decode cX9_reachesAll 30 = .ok (.iconst 0, 1) := by decide +kernel
theorem dX9_reachesAll_31 : decode cX9_reachesAll 31 = .ok (.ireturn, 1) := by decide +kernel
theorem dX9_reachesAll_32 : decode cX9_reachesAll 32 = .ok (.iinc 2 1, 3) := by decide +kernel
theorem dX9_reachesAll_35 : decode cX9_reachesAll 35 = .ok (.goto (-33), 3) := by decide +kernel
theorem dX9_reachesAll_38 : decode cX9_reachesAll 38 = .ok (.iconst 1, 1) := by decide +kernel
theorem dX9_reachesAll_39 : decode cX9_reachesAll 39 = .ok (.ireturn, 1) := by decide +kernel
theorem dX9_longestRope_0 : decode cX9_longestRope 0 = .ok (.iconst 0, 1) := by decide +kernel
theorem dX9_longestRope_1 : decode cX9_longestRope 1 = .ok (.istore_n 1, 1) := by decide +kernel
theorem dX9_longestRope_2 : decode cX9_longestRope 2 = .ok (.aload_n 0, 1) := by decide +kernel
theorem dX9_longestRope_3 : decode cX9_longestRope 3 = .ok (.getfield 15, 3) := by decide +kernel
theorem dX9_longestRope_6 : decode cX9_longestRope 6 = .ok (.getfield 23, 3) := by decide +kernel
theorem dX9_longestRope_9 : decode cX9_longestRope 9 = .ok (.bipush 7, 2) := by decide +kernel
theorem dX9_longestRope_11 : decode cX9_longestRope 11 = .ok (.invokestatic 64, 3) := by decide +kernel
theorem dX9_longestRope_14 : decode cX9_longestRope 14 = .ok (.iconst 1, 1) := by decide +kernel
theorem dX9_longestRope_15 : decode cX9_longestRope 15 = .ok (.isub, 1) := by decide +kernel
theorem dX9_longestRope_16 : decode cX9_longestRope 16 = .ok (.istore_n 2, 1) := by decide +kernel
theorem dX9_longestRope_17 : decode cX9_longestRope 17 = .ok (.iload_n 2, 1) := by decide +kernel
theorem dX9_longestRope_18 : decode cX9_longestRope 18 = .ok (.ifCond .lt 33, 3) := by decide +kernel
theorem dX9_longestRope_21 : decode cX9_longestRope 21 = .ok (.aload_n 0, 1) := by decide +kernel
theorem dX9_longestRope_22 : decode cX9_longestRope 22 = .ok (.getfield 9, 3) := by decide +kernel
theorem dX9_longestRope_25 : decode cX9_longestRope 25 = .ok (.iload_n 2, 1) := by decide +kernel
theorem dX9_longestRope_26 : decode cX9_longestRope 26 = .ok (.iconst 1, 1) := by decide +kernel
theorem dX9_longestRope_27 : decode cX9_longestRope 27 = .ok (.aload_n 0, 1) := by decide +kernel
theorem dX9_longestRope_28 : decode cX9_longestRope 28 = .ok (.iload_n 2, 1) := by decide +kernel
theorem dX9_longestRope_29 : decode cX9_longestRope 29 = .ok (.invokevirtual 67, 3) := by decide +kernel
theorem dX9_longestRope_32 : decode cX9_longestRope 32 = .ok (.iadd, 1) := by decide +kernel
theorem dX9_longestRope_33 : decode cX9_longestRope 33 = .ok (.iastore, 1) := by decide +kernel
theorem dX9_longestRope_34 : decode cX9_longestRope 34 = .ok (.iload_n 1, 1) := by decide +kernel
theorem dX9_longestRope_35 : decode cX9_longestRope 35 = .ok (.aload_n 0, 1) := by decide +kernel
theorem dX9_longestRope_36 : decode cX9_longestRope 36 = .ok (.getfield 9, 3) := by decide +kernel
theorem dX9_longestRope_39 : decode cX9_longestRope 39 = .ok (.iload_n 2, 1) := by decide +kernel
theorem dX9_longestRope_40 : decode cX9_longestRope 40 = .ok (.iaload, 1) := by decide +kernel
theorem dX9_longestRope_41 : decode cX9_longestRope 41 = .ok (.invokestatic 70, 3) := by decide +kernel
theorem dX9_longestRope_44 : decode cX9_longestRope 44 = .ok (.istore_n 1, 1) := by decide +kernel
theorem dX9_longestRope_45 : decode cX9_longestRope 45 = .ok (.iinc 2 (-1), 3) := by decide +kernel
theorem dX9_longestRope_48 : decode cX9_longestRope 48 = .ok (.goto (-31), 3) := by decide +kernel
theorem dX9_longestRope_51 : decode cX9_longestRope 51 = .ok (.aload_n 0, 1) := by decide +kernel
theorem dX9_longestRope_52 : decode cX9_longestRope 52 = .ok (.getfield 19, 3) := by decide +kernel
theorem dX9_longestRope_55 : decode cX9_longestRope 55 = .ok (.invokevirtual 73, 3) := by decide +kernel
theorem dX9_longestRope_58 : decode cX9_longestRope 58 = .ok (.iload_n 1, 1) := by decide +kernel
theorem dX9_longestRope_59 : decode cX9_longestRope 59 = .ok (.istore_n 2, 1) := by decide +kernel
theorem dX9_longestRope_60 : decode cX9_longestRope 60 = .ok (.iconst (-1), 1) := by decide +kernel
theorem dX9_longestRope_61 : decode cX9_longestRope 61 = .ok (.istore_n 3, 1) := by decide +kernel
theorem dX9_longestRope_62 : decode cX9_longestRope 62 = .ok (.iconst 0, 1) := by decide +kernel
theorem dX9_longestRope_63 : decode cX9_longestRope 63 = .ok (.istore 4, 2) := by decide +kernel
theorem dX9_longestRope_65 : decode cX9_longestRope 65 = .ok (.iload 4, 2) := by decide +kernel
theorem dX9_longestRope_67 : decode cX9_longestRope 67 = .ok (.bipush 7, 2) := by decide +kernel
theorem dX9_longestRope_69 : decode cX9_longestRope 69 = .ok (.if_icmp .ge 74, 3) := by decide +kernel
theorem dX9_longestRope_72 : decode cX9_longestRope 72 = .ok (.iload 4, 2) := by decide +kernel
theorem dX9_longestRope_74 : decode cX9_longestRope 74 = .ok (.aload_n 0, 1) := by decide +kernel
theorem dX9_longestRope_75 : decode cX9_longestRope 75 = .ok (.getfield 15, 3) := by decide +kernel
theorem dX9_longestRope_78 : decode cX9_longestRope 78 = .ok (.getfield 23, 3) := by decide +kernel
theorem dX9_longestRope_81 : decode cX9_longestRope 81 = .ok (.if_icmp .ge 62, 3) := by decide +kernel
theorem dX9_longestRope_84 : decode cX9_longestRope 84 = .ok (.iload_n 2, 1) := by decide +kernel
theorem dX9_longestRope_85 : decode cX9_longestRope 85 = .ok (.ifCond .le 52, 3) := by decide +kernel
theorem dX9_longestRope_88 : decode cX9_longestRope 88 = .ok (.aload_n 0, 1) := by decide +kernel
theorem dX9_longestRope_89 : decode cX9_longestRope 89 = .ok (.getfield 9, 3) := by decide +kernel
theorem dX9_longestRope_92 : decode cX9_longestRope 92 = .ok (.iload 4, 2) := by decide +kernel
theorem dX9_longestRope_94 : decode cX9_longestRope 94 = .ok (.iaload, 1) := by decide +kernel
theorem dX9_longestRope_95 : decode cX9_longestRope 95 = .ok (.iload_n 2, 1) := by decide +kernel
theorem dX9_longestRope_96 : decode cX9_longestRope 96 = .ok (.if_icmp .ne 41, 3) := by decide +kernel
theorem dX9_longestRope_99 : decode cX9_longestRope 99 = .ok (.aload_n 0, 1) := by decide +kernel
theorem dX9_longestRope_100 : decode cX9_longestRope 100 = .ok (.getfield 15, 3) := by decide +kernel
theorem dX9_longestRope_103 : decode cX9_longestRope 103 = .ok (.getfield 29, 3) := by decide +kernel
theorem dX9_longestRope_106 : decode cX9_longestRope 106 = .ok (.iload 4, 2) := by decide +kernel
theorem dX9_longestRope_108 : decode cX9_longestRope 108 = .ok (.iaload, 1) := by decide +kernel
theorem dX9_longestRope_109 : decode cX9_longestRope 109 = .ok (.iload_n 3, 1) := by decide +kernel
theorem dX9_longestRope_110 : decode cX9_longestRope 110 = .ok (.if_icmp .le 27, 3) := by decide +kernel
theorem dX9_longestRope_113 : decode cX9_longestRope 113 = .ok (.aload_n 0, 1) := by decide +kernel
theorem dX9_longestRope_114 : decode cX9_longestRope 114 = .ok (.getfield 19, 3) := by decide +kernel
theorem dX9_longestRope_117 : decode cX9_longestRope 117 = .ok (.iload 4, 2) := by decide +kernel
theorem dX9_longestRope_119 : decode cX9_longestRope 119 = .ok (.i2l, 1) := by decide +kernel
theorem dX9_longestRope_120 : decode cX9_longestRope 120 = .ok (.invokevirtual 76, 3) := by decide +kernel
theorem dX9_longestRope_123 : decode cX9_longestRope 123 = .ok (.aload_n 0, 1) := by decide +kernel
theorem dX9_longestRope_124 : decode cX9_longestRope 124 = .ok (.getfield 15, 3) := by decide +kernel
theorem dX9_longestRope_127 : decode cX9_longestRope 127 = .ok (.getfield 29, 3) := by decide +kernel
theorem dX9_longestRope_130 : decode cX9_longestRope 130 = .ok (.iload 4, 2) := by decide +kernel
theorem dX9_longestRope_132 : decode cX9_longestRope 132 = .ok (.iaload, 1) := by decide +kernel
theorem dX9_longestRope_133 : decode cX9_longestRope 133 = .ok (.istore_n 3, 1) := by decide +kernel
theorem dX9_longestRope_134 : decode cX9_longestRope 134 = .ok (.iinc 2 (-1), 3) := by decide +kernel
theorem dX9_longestRope_137 : decode cX9_longestRope 137 = .ok (.iinc 4 1, 3) := by decide +kernel
theorem dX9_longestRope_140 : decode cX9_longestRope 140 = .ok (.goto (-75), 3) := by decide +kernel
theorem dX9_longestRope_143 : decode cX9_longestRope 143 = .ok (.iload_n 1, 1) := by decide +kernel
theorem dX9_longestRope_144 : decode cX9_longestRope 144 = .ok (.ireturn, 1) := by decide +kernel
theorem dX9_longestBehind_0 : decode cX9_longestBehind 0 = .ok (.iconst 0, 1) := by decide +kernel
theorem dX9_longestBehind_1 : decode cX9_longestBehind 1 = .ok (.istore_n 2, 1) := by decide +kernel
theorem dX9_longestBehind_2 : decode cX9_longestBehind 2 = .ok (.iload_n 1, 1) := by decide +kernel
theorem dX9_longestBehind_3 : decode cX9_longestBehind 3 = .ok (.iconst 1, 1) := by decide +kernel
theorem dX9_longestBehind_4 : decode cX9_longestBehind 4 = .ok (.iadd, 1) := by decide +kernel
theorem dX9_longestBehind_5 : decode cX9_longestBehind 5 = .ok (.istore_n 3, 1) := by decide +kernel
theorem dX9_longestBehind_6 : decode cX9_longestBehind 6 = .ok (.iload_n 3, 1) := by decide +kernel
theorem dX9_longestBehind_7 : decode cX9_longestBehind 7 = .ok (.bipush 7, 2) := by decide +kernel
theorem dX9_longestBehind_9 : decode cX9_longestBehind 9 = .ok (.if_icmp .ge 74, 3) := by decide +kernel
theorem dX9_longestBehind_12 : decode cX9_longestBehind 12 = .ok (.iload_n 3, 1) := by decide +kernel
theorem dX9_longestBehind_13 : decode cX9_longestBehind 13 = .ok (.aload_n 0, 1) := by decide +kernel
theorem dX9_longestBehind_14 : decode cX9_longestBehind 14 = .ok (.getfield 15, 3) := by decide +kernel
theorem dX9_longestBehind_17 : decode cX9_longestBehind 17 = .ok (.getfield 23, 3) := by decide +kernel
theorem dX9_longestBehind_20 : decode cX9_longestBehind 20 = .ok (.if_icmp .ge 63, 3) := by decide +kernel
theorem dX9_longestBehind_23 : decode cX9_longestBehind 23 = .ok (.aload_n 0, 1) := by decide +kernel
theorem dX9_longestBehind_24 : decode cX9_longestBehind 24 = .ok (.getfield 15, 3) := by decide +kernel
theorem dX9_longestBehind_27 : decode cX9_longestBehind 27 = .ok (.iload_n 1, 1) := by decide +kernel
theorem dX9_longestBehind_28 : decode cX9_longestBehind 28 = .ok (.invokevirtual 79, 3) := by decide +kernel
theorem dX9_longestBehind_31 : decode cX9_longestBehind 31 = .ok (.ifCond .eq 46, 3) := by decide +kernel
theorem dX9_longestBehind_34 : decode cX9_longestBehind 34 = .ok (.aload_n 0, 1) := by decide +kernel
theorem dX9_longestBehind_35 : decode cX9_longestBehind 35 = .ok (.getfield 15, 3) := by decide +kernel
theorem dX9_longestBehind_38 : decode cX9_longestBehind 38 = .ok (.iload_n 3, 1) := by decide +kernel
theorem dX9_longestBehind_39 : decode cX9_longestBehind 39 = .ok (.invokevirtual 79, 3) := by decide +kernel
theorem dX9_longestBehind_42 : decode cX9_longestBehind 42 = .ok (.ifCond .eq 35, 3) := by decide +kernel
theorem dX9_longestBehind_45 : decode cX9_longestBehind 45 = .ok (.aload_n 0, 1) := by decide +kernel
theorem dX9_longestBehind_46 : decode cX9_longestBehind 46 = .ok (.getfield 15, 3) := by decide +kernel
theorem dX9_longestBehind_49 : decode cX9_longestBehind 49 = .ok (.getfield 29, 3) := by decide +kernel
theorem dX9_longestBehind_52 : decode cX9_longestBehind 52 = .ok (.iload_n 3, 1) := by decide +kernel
theorem dX9_longestBehind_53 : decode cX9_longestBehind 53 = .ok (.iaload, 1) := by decide +kernel
theorem dX9_longestBehind_54 : decode cX9_longestBehind 54 = .ok (.aload_n 0, 1) := by decide +kernel
theorem dX9_longestBehind_55 : decode cX9_longestBehind 55 = .ok (.getfield 15, 3) := by decide +kernel
theorem dX9_longestBehind_58 : decode cX9_longestBehind 58 = .ok (.getfield 29, 3) := by decide +kernel
theorem dX9_longestBehind_61 : decode cX9_longestBehind 61 = .ok (.iload_n 1, 1) := by decide +kernel
theorem dX9_longestBehind_62 : decode cX9_longestBehind 62 = .ok (.iaload, 1) := by decide +kernel
theorem dX9_longestBehind_63 : decode cX9_longestBehind 63 = .ok (.if_icmp .le 14, 3) := by decide +kernel
theorem dX9_longestBehind_66 : decode cX9_longestBehind 66 = .ok (.iload_n 2, 1) := by decide +kernel
theorem dX9_longestBehind_67 : decode cX9_longestBehind 67 = .ok (.aload_n 0, 1) := by decide +kernel
theorem dX9_longestBehind_68 : decode cX9_longestBehind 68 = .ok (.getfield 9, 3) := by decide +kernel
theorem dX9_longestBehind_71 : decode cX9_longestBehind 71 = .ok (.iload_n 3, 1) := by decide +kernel
theorem dX9_longestBehind_72 : decode cX9_longestBehind 72 = .ok (.iaload, 1) := by decide +kernel
theorem dX9_longestBehind_73 : decode cX9_longestBehind 73 = .ok (.invokestatic 70, 3) := by decide +kernel
theorem dX9_longestBehind_76 : decode cX9_longestBehind 76 = .ok (.istore_n 2, 1) := by decide +kernel
theorem dX9_longestBehind_77 : decode cX9_longestBehind 77 = .ok (.iinc 3 1, 3) := by decide +kernel
theorem dX9_longestBehind_80 : decode cX9_longestBehind 80 = .ok (.goto (-74), 3) := by decide +kernel
theorem dX9_longestBehind_83 : decode cX9_longestBehind 83 = .ok (.iload_n 2, 1) := by decide +kernel
theorem dX9_longestBehind_84 : decode cX9_longestBehind 84 = .ok (.ireturn, 1) := by decide +kernel
theorem dX9_fromTheHighest_0 : decode cX9_fromTheHighest 0 = .ok (.aload_n 0, 1) := by decide +kernel
theorem dX9_fromTheHighest_1 : decode cX9_fromTheHighest 1 = .ok (.getfield 19, 3) := by decide +kernel
theorem dX9_fromTheHighest_4 : decode cX9_fromTheHighest 4 = .ok (.invokevirtual 73, 3) := by decide +kernel
theorem dX9_fromTheHighest_7 : decode cX9_fromTheHighest 7 = .ok (.bipush 9, 2) := by decide +kernel
theorem dX9_fromTheHighest_9 : decode cX9_fromTheHighest 9 = .ok (.istore_n 1, 1) := by decide +kernel
theorem dX9_fromTheHighest_10 : decode cX9_fromTheHighest 10 = .ok (.iload_n 1, 1) := by decide +kernel
theorem dX9_fromTheHighest_11 : decode cX9_fromTheHighest 11 = .ok (.ifCond .lt 56, 3) := by decide +kernel
theorem dX9_fromTheHighest_14 : decode cX9_fromTheHighest 14 = .ok (.iconst 0, 1) := by decide +kernel
theorem dX9_fromTheHighest_15 : decode cX9_fromTheHighest 15 = .ok (.istore_n 2, 1) := by decide +kernel
theorem dX9_fromTheHighest_16 : decode cX9_fromTheHighest 16 = .ok (.iload_n 2, 1) := by decide +kernel
theorem dX9_fromTheHighest_17 : decode cX9_fromTheHighest 17 = .ok (.bipush 7, 2) := by decide +kernel
theorem dX9_fromTheHighest_19 : decode cX9_fromTheHighest 19 = .ok (.if_icmp .ge 42, 3) := by decide +kernel
theorem dX9_fromTheHighest_22 : decode cX9_fromTheHighest 22 = .ok (.iload_n 2, 1) := by decide +kernel
theorem dX9_fromTheHighest_23 : decode cX9_fromTheHighest 23 = .ok (.aload_n 0, 1) := by decide +kernel
theorem dX9_fromTheHighest_24 : decode cX9_fromTheHighest 24 = .ok (.getfield 15, 3) := by decide +kernel
theorem dX9_fromTheHighest_27 : decode cX9_fromTheHighest 27 = .ok (.getfield 23, 3) := by decide +kernel
theorem dX9_fromTheHighest_30 : decode cX9_fromTheHighest 30 = .ok (.if_icmp .ge 31, 3) := by decide +kernel
theorem dX9_fromTheHighest_33 : decode cX9_fromTheHighest 33 = .ok (.aload_n 0, 1) := by decide +kernel
theorem dX9_fromTheHighest_34 : decode cX9_fromTheHighest 34 = .ok (.getfield 15, 3) := by decide +kernel
theorem dX9_fromTheHighest_37 : decode cX9_fromTheHighest 37 = .ok (.getfield 29, 3) := by decide +kernel
theorem dX9_fromTheHighest_40 : decode cX9_fromTheHighest 40 = .ok (.iload_n 2, 1) := by decide +kernel
theorem dX9_fromTheHighest_41 : decode cX9_fromTheHighest 41 = .ok (.iaload, 1) := by decide +kernel
theorem dX9_fromTheHighest_42 : decode cX9_fromTheHighest 42 = .ok (.iload_n 1, 1) := by decide +kernel
theorem dX9_fromTheHighest_43 : decode cX9_fromTheHighest 43 = .ok (.if_icmp .ne 12, 3) := by decide +kernel
theorem dX9_fromTheHighest_46 : decode cX9_fromTheHighest 46 = .ok (.aload_n 0, 1) := by decide +kernel
theorem dX9_fromTheHighest_47 : decode cX9_fromTheHighest 47 = .ok (.getfield 19, 3) := by decide +kernel
theorem dX9_fromTheHighest_50 : decode cX9_fromTheHighest 50 = .ok (.iload_n 2, 1) := by decide +kernel
theorem dX9_fromTheHighest_51 : decode cX9_fromTheHighest 51 = .ok (.i2l, 1) := by decide +kernel
theorem dX9_fromTheHighest_52 : decode cX9_fromTheHighest 52 = .ok (.invokevirtual 76, 3) := by decide +kernel
theorem dX9_fromTheHighest_55 : decode cX9_fromTheHighest 55 = .ok (.iinc 2 1, 3) := by decide +kernel
theorem dX9_fromTheHighest_58 : decode cX9_fromTheHighest 58 = .ok (.goto (-42), 3) := by decide +kernel
theorem dX9_fromTheHighest_61 : decode cX9_fromTheHighest 61 = .ok (.iinc 1 (-1), 3) := by decide +kernel
theorem dX9_fromTheHighest_64 : decode cX9_fromTheHighest 64 = .ok (.goto (-54), 3) := by decide +kernel
theorem dX9_fromTheHighest_67 : decode cX9_fromTheHighest 67 = .ok (.aload_n 0, 1) := by decide +kernel
theorem dX9_fromTheHighest_68 : decode cX9_fromTheHighest 68 = .ok (.getfield 15, 3) := by decide +kernel
theorem dX9_fromTheHighest_71 : decode cX9_fromTheHighest 71 = .ok (.getfield 23, 3) := by decide +kernel
theorem dX9_fromTheHighest_74 : decode cX9_fromTheHighest 74 = .ok (.ireturn, 1) := by decide +kernel
theorem dX9_nearestTwo_0 : decode cX9_nearestTwo 0 = .ok (.bipush (-2), 2) := by decide +kernel
theorem dX9_nearestTwo_2 : decode cX9_nearestTwo 2 = .ok (.istore_n 1, 1) := by decide +kernel
theorem dX9_nearestTwo_3 : decode cX9_nearestTwo 3 = .ok (.iconst 0, 1) := by decide +kernel
theorem dX9_nearestTwo_4 : decode cX9_nearestTwo 4 = .ok (.istore_n 2, 1) := by decide +kernel
theorem dX9_nearestTwo_5 : decode cX9_nearestTwo 5 = .ok (.iload_n 2, 1) := by decide +kernel
theorem dX9_nearestTwo_6 : decode cX9_nearestTwo 6 = .ok (.bipush 7, 2) := by decide +kernel
theorem dX9_nearestTwo_8 : decode cX9_nearestTwo 8 = .ok (.if_icmp .ge 95, 3) := by decide +kernel
theorem dX9_nearestTwo_11 : decode cX9_nearestTwo 11 = .ok (.iload_n 2, 1) := by decide +kernel
theorem dX9_nearestTwo_12 : decode cX9_nearestTwo 12 = .ok (.aload_n 0, 1) := by decide +kernel
theorem dX9_nearestTwo_13 : decode cX9_nearestTwo 13 = .ok (.getfield 15, 3) := by decide +kernel
theorem dX9_nearestTwo_16 : decode cX9_nearestTwo 16 = .ok (.getfield 23, 3) := by decide +kernel
theorem dX9_nearestTwo_19 : decode cX9_nearestTwo 19 = .ok (.if_icmp .ge 84, 3) := by decide +kernel
theorem dX9_nearestTwo_22 : decode cX9_nearestTwo 22 = .ok (.iload_n 2, 1) := by decide +kernel
theorem dX9_nearestTwo_23 : decode cX9_nearestTwo 23 = .ok (.iconst 1, 1) := by decide +kernel
theorem dX9_nearestTwo_24 : decode cX9_nearestTwo 24 = .ok (.iadd, 1) := by decide +kernel
theorem dX9_nearestTwo_25 : decode cX9_nearestTwo 25 = .ok (.istore_n 3, 1) := by decide +kernel
theorem dX9_nearestTwo_26 : decode cX9_nearestTwo 26 = .ok (.iload_n 3, 1) := by decide +kernel
theorem dX9_nearestTwo_27 : decode cX9_nearestTwo 27 = .ok (.bipush 7, 2) := by decide +kernel
theorem dX9_nearestTwo_29 : decode cX9_nearestTwo 29 = .ok (.if_icmp .ge 68, 3) := by decide +kernel
theorem dX9_nearestTwo_32 : decode cX9_nearestTwo 32 = .ok (.iload_n 3, 1) := by decide +kernel
theorem dX9_nearestTwo_33 : decode cX9_nearestTwo 33 = .ok (.aload_n 0, 1) := by decide +kernel
theorem dX9_nearestTwo_34 : decode cX9_nearestTwo 34 = .ok (.getfield 15, 3) := by decide +kernel
theorem dX9_nearestTwo_37 : decode cX9_nearestTwo 37 = .ok (.getfield 23, 3) := by decide +kernel
theorem dX9_nearestTwo_40 : decode cX9_nearestTwo 40 = .ok (.if_icmp .ge 57, 3) := by decide +kernel
theorem dX9_nearestTwo_43 : decode cX9_nearestTwo 43 = .ok (.aload_n 0, 1) := by decide +kernel
theorem dX9_nearestTwo_44 : decode cX9_nearestTwo 44 = .ok (.getfield 15, 3) := by decide +kernel
theorem dX9_nearestTwo_47 : decode cX9_nearestTwo 47 = .ok (.getfield 29, 3) := by decide +kernel
theorem dX9_nearestTwo_50 : decode cX9_nearestTwo 50 = .ok (.iload_n 2, 1) := by decide +kernel
theorem dX9_nearestTwo_51 : decode cX9_nearestTwo 51 = .ok (.iaload, 1) := by decide +kernel
theorem dX9_nearestTwo_52 : decode cX9_nearestTwo 52 = .ok (.aload_n 0, 1) := by decide +kernel
theorem dX9_nearestTwo_53 : decode cX9_nearestTwo 53 = .ok (.getfield 15, 3) := by decide +kernel
theorem dX9_nearestTwo_56 : decode cX9_nearestTwo 56 = .ok (.getfield 29, 3) := by decide +kernel
theorem dX9_nearestTwo_59 : decode cX9_nearestTwo 59 = .ok (.iload_n 3, 1) := by decide +kernel
theorem dX9_nearestTwo_60 : decode cX9_nearestTwo 60 = .ok (.iaload, 1) := by decide +kernel
theorem dX9_nearestTwo_61 : decode cX9_nearestTwo 61 = .ok (.isub, 1) := by decide +kernel
theorem dX9_nearestTwo_62 : decode cX9_nearestTwo 62 = .ok (.invokestatic 59, 3) := by decide +kernel
theorem dX9_nearestTwo_65 : decode cX9_nearestTwo 65 = .ok (.istore 4, 2) := by decide +kernel
theorem dX9_nearestTwo_67 : decode cX9_nearestTwo 67 = .ok (.iload_n 1, 1) := by decide +kernel
theorem dX9_nearestTwo_68 : decode cX9_nearestTwo 68 = .ok (.ifCond .lt 9, 3) := by decide +kernel
theorem dX9_nearestTwo_71 : decode cX9_nearestTwo 71 = .ok (.iload 4, 2) := by decide +kernel
theorem dX9_nearestTwo_73 : decode cX9_nearestTwo 73 = .ok (.iload_n 1, 1) := by decide +kernel
theorem dX9_nearestTwo_74 : decode cX9_nearestTwo 74 = .ok (.if_icmp .ge 17, 3) := by decide +kernel
theorem dX9_nearestTwo_77 : decode cX9_nearestTwo 77 = .ok (.iload 4, 2) := by decide +kernel
theorem dX9_nearestTwo_79 : decode cX9_nearestTwo 79 = .ok (.istore_n 1, 1) := by decide +kernel
theorem dX9_nearestTwo_80 : decode cX9_nearestTwo 80 = .ok (.aload_n 0, 1) := by decide +kernel
theorem dX9_nearestTwo_81 : decode cX9_nearestTwo 81 = .ok (.getfield 19, 3) := by decide +kernel
theorem dX9_nearestTwo_84 : decode cX9_nearestTwo 84 = .ok (.iload_n 2, 1) := by decide +kernel
theorem dX9_nearestTwo_85 : decode cX9_nearestTwo 85 = .ok (.i2l, 1) := by decide +kernel
theorem dX9_nearestTwo_86 : decode cX9_nearestTwo 86 = .ok (.iload_n 3, 1) := by decide +kernel
theorem dX9_nearestTwo_87 : decode cX9_nearestTwo 87 = .ok (.i2l, 1) := by decide +kernel
theorem dX9_nearestTwo_88 : decode cX9_nearestTwo 88 = .ok (.invokevirtual 82, 3) := by decide +kernel
theorem dX9_nearestTwo_91 : decode cX9_nearestTwo 91 = .ok (.iinc 3 1, 3) := by decide +kernel
theorem dX9_nearestTwo_94 : decode cX9_nearestTwo 94 = .ok (.goto (-68), 3) := by decide +kernel
theorem dX9_nearestTwo_97 : decode cX9_nearestTwo 97 = .ok (.iinc 2 1, 3) := by decide +kernel
theorem dX9_nearestTwo_100 : decode cX9_nearestTwo 100 = .ok (.goto (-95), 3) := by decide +kernel
theorem dX9_nearestTwo_103 : decode cX9_nearestTwo 103 = .ok (.iload_n 1, 1) := by decide +kernel
theorem dX9_nearestTwo_104 : decode cX9_nearestTwo 104 = .ok (.ireturn, 1) := by decide +kernel
theorem dX9_justStones_0 : decode cX9_justStones 0 = .ok (.iconst 0, 1) := by decide +kernel
theorem dX9_justStones_1 : decode cX9_justStones 1 = .ok (.istore_n 2, 1) := by decide +kernel
theorem dX9_justStones_2 : decode cX9_justStones 2 = .ok (.bipush (-2), 2) := by decide +kernel
theorem dX9_justStones_4 : decode cX9_justStones 4 = .ok (.istore_n 3, 1) := by decide +kernel
theorem dX9_justStones_5 : decode cX9_justStones 5 = .ok (.iconst 0, 1) := by decide +kernel
theorem dX9_justStones_6 : decode cX9_justStones 6 = .ok (.istore 4, 2) := by decide +kernel
theorem dX9_justStones_8 : decode cX9_justStones 8 = .ok (.iconst 0, 1) := by decide +kernel
theorem dX9_justStones_9 : decode cX9_justStones 9 = .ok (.istore 5, 2) := by decide +kernel
theorem dX9_justStones_11 : decode cX9_justStones 11 = .ok (.iload 5, 2) := by decide +kernel
theorem dX9_justStones_13 : decode cX9_justStones 13 = .ok (.aload_n 0, 1) := by decide +kernel
theorem dX9_justStones_14 : decode cX9_justStones 14 = .ok (.getfield 15, 3) := by decide +kernel
theorem dX9_justStones_17 : decode cX9_justStones 17 = .ok (.invokevirtual 86, 3) := by decide +kernel
theorem dX9_justStones_20 : decode cX9_justStones 20 = .ok (.if_icmp .gt 57, 3) := by decide +kernel
theorem dX9_justStones_23 : decode cX9_justStones 23 = .ok (.aload_n 0, 1) := by decide +kernel
theorem dX9_justStones_24 : decode cX9_justStones 24 = .ok (.getfield 15, 3) := by decide +kernel
theorem dX9_justStones_27 : decode cX9_justStones 27 = .ok (.aload_n 0, 1) := by decide +kernel
theorem dX9_justStones_28 : decode cX9_justStones 28 = .ok (.getfield 15, 3) := by decide +kernel
theorem dX9_justStones_31 : decode cX9_justStones 31 = .ok (.getfield 90, 3) := by decide +kernel
theorem dX9_justStones_34 : decode cX9_justStones 34 = .ok (.iload 5, 2) := by decide +kernel
theorem dX9_justStones_36 : decode cX9_justStones 36 = .ok (.invokevirtual 93, 3) := by decide +kernel
theorem dX9_justStones_39 : decode cX9_justStones 39 = .ok (.iload_n 1, 1) := by decide +kernel
theorem dX9_justStones_40 : decode cX9_justStones 40 = .ok (.if_icmp .eq 6, 3) := by decide +kernel
theorem dX9_justStones_43 : decode cX9_justStones 43 = .ok (.goto 28, 3) := by decide +kernel
theorem dX9_justStones_46 : decode cX9_justStones 46 = .ok (.iinc 4 1, 3) := by decide +kernel
theorem dX9_justStones_49 : decode cX9_justStones 49 = .ok (.iload_n 3, 1) := by decide +kernel
theorem dX9_justStones_50 : decode cX9_justStones 50 = .ok (.ifCond .lt 12, 3) := by decide +kernel
theorem dX9_justStones_53 : decode cX9_justStones 53 = .ok (.iload 5, 2) := by decide +kernel
theorem dX9_justStones_55 : decode cX9_justStones 55 = .ok (.invokestatic 43, 3) := by decide +kernel
theorem dX9_justStones_58 : decode cX9_justStones 58 = .ok (.iload_n 3, 1) := by decide +kernel
theorem dX9_justStones_59 : decode cX9_justStones 59 = .ok (.if_icmp .ge 12, 3) := by decide +kernel
theorem dX9_justStones_62 : decode cX9_justStones 62 = .ok (.iload 5, 2) := by decide +kernel
theorem dX9_justStones_64 : decode cX9_justStones 64 = .ok (.invokestatic 43, 3) := by decide +kernel
theorem dX9_justStones_67 : decode cX9_justStones 67 = .ok (.istore_n 3, 1) := by decide +kernel
theorem dX9_justStones_68 : decode cX9_justStones 68 = .ok (.iload 5, 2) := by decide +kernel
theorem dX9_justStones_70 : decode cX9_justStones 70 = .ok (.istore_n 2, 1) := by decide +kernel
theorem dX9_justStones_71 : decode cX9_justStones 71 = .ok (.iinc 5 1, 3) := by decide +kernel
theorem dX9_justStones_74 : decode cX9_justStones 74 = .ok (.goto (-63), 3) := by decide +kernel
theorem dX9_justStones_77 : decode cX9_justStones 77 = .ok (.iload 4, 2) := by decide +kernel
theorem dX9_justStones_79 : decode cX9_justStones 79 = .ok (.ifCond .le 15, 3) := by decide +kernel
theorem dX9_justStones_82 : decode cX9_justStones 82 = .ok (.aload_n 0, 1) := by decide +kernel
theorem dX9_justStones_83 : decode cX9_justStones 83 = .ok (.getfield 19, 3) := by decide +kernel
theorem dX9_justStones_86 : decode cX9_justStones 86 = .ok (.iload_n 2, 1) := by decide +kernel
theorem dX9_justStones_87 : decode cX9_justStones 87 = .ok (.i2l, 1) := by decide +kernel
theorem dX9_justStones_88 : decode cX9_justStones 88 = .ok (.iload 4, 2) := by decide +kernel
theorem dX9_justStones_90 : decode cX9_justStones 90 = .ok (.i2l, 1) := by decide +kernel
theorem dX9_justStones_91 : decode cX9_justStones 91 = .ok (.invokevirtual 82, 3) := by decide +kernel
theorem dX9_justStones_94 : decode cX9_justStones 94 = .ok (.iload_n 3, 1) := by decide +kernel
theorem dX9_justStones_95 : decode cX9_justStones 95 = .ok (.ireturn, 1) := by decide +kernel
theorem dX9_evenParties_0 : decode cX9_evenParties 0 = .ok (.aload_n 0, 1) := by decide +kernel
theorem dX9_evenParties_1 : decode cX9_evenParties 1 = .ok (.getfield 15, 3) := by decide +kernel
theorem dX9_evenParties_4 : decode cX9_evenParties 4 = .ok (.aload_n 0, 1) := by decide +kernel
theorem dX9_evenParties_5 : decode cX9_evenParties 5 = .ok (.getfield 15, 3) := by decide +kernel
theorem dX9_evenParties_8 : decode cX9_evenParties 8 = .ok (.getfield 97, 3) := by decide +kernel
theorem dX9_evenParties_11 : decode cX9_evenParties 11 = .ok (.invokevirtual 100, 3) := by decide +kernel
theorem dX9_evenParties_14 : decode cX9_evenParties 14 = .ok (.istore_n 1, 1) := by decide +kernel
theorem dX9_evenParties_15 : decode cX9_evenParties 15 = .ok (.iconst 0, 1) := by decide +kernel
theorem dX9_evenParties_16 : decode cX9_evenParties 16 = .ok (.istore_n 2, 1) := by decide +kernel
theorem dX9_evenParties_17 : decode cX9_evenParties 17 = .ok (.iload_n 1, 1) := by decide +kernel
theorem dX9_evenParties_18 : decode cX9_evenParties 18 = .ok (.istore_n 3, 1) := by decide +kernel
theorem dX9_evenParties_19 : decode cX9_evenParties 19 = .ok (.iconst 0, 1) := by decide +kernel
theorem dX9_evenParties_20 : decode cX9_evenParties 20 = .ok (.istore 4, 2) := by decide +kernel
theorem dX9_evenParties_22 : decode cX9_evenParties 22 = .ok (.iload 4, 2) := by decide +kernel
theorem dX9_evenParties_24 : decode cX9_evenParties 24 = .ok (.aload_n 0, 1) := by decide +kernel
theorem dX9_evenParties_25 : decode cX9_evenParties 25 = .ok (.getfield 15, 3) := by decide +kernel
theorem dX9_evenParties_28 : decode cX9_evenParties 28 = .ok (.invokevirtual 86, 3) := by decide +kernel
theorem dX9_evenParties_31 : decode cX9_evenParties 31 = .ok (.if_icmp .gt 46, 3) := by decide +kernel
theorem dX9_evenParties_34 : decode cX9_evenParties 34 = .ok (.iload_n 1, 1) := by decide +kernel
theorem dX9_evenParties_35 : decode cX9_evenParties 35 = .ok (.iconst 2, 1) := by decide +kernel
theorem dX9_evenParties_36 : decode cX9_evenParties 36 = .ok (.aload_n 0, 1) := by decide +kernel
theorem dX9_evenParties_37 : decode cX9_evenParties 37 = .ok (.getfield 15, 3) := by decide +kernel
theorem dX9_evenParties_40 : decode cX9_evenParties 40 = .ok (.aload_n 0, 1) := by decide +kernel
theorem dX9_evenParties_41 : decode cX9_evenParties 41 = .ok (.getfield 15, 3) := by decide +kernel
theorem dX9_evenParties_44 : decode cX9_evenParties 44 = .ok (.getfield 97, 3) := by decide +kernel
theorem dX9_evenParties_47 : decode cX9_evenParties 47 = .ok (.iload 4, 2) := by decide +kernel
theorem dX9_evenParties_49 : decode cX9_evenParties 49 = .ok (.invokevirtual 93, 3) := by decide +kernel
theorem dX9_evenParties_52 : decode cX9_evenParties 52 = .ok (.imul, 1) := by decide +kernel
theorem dX9_evenParties_53 : decode cX9_evenParties 53 = .ok (.isub, 1) := by decide +kernel
theorem dX9_evenParties_54 : decode cX9_evenParties 54 = .ok (.invokestatic 59, 3) := by decide +kernel
theorem dX9_evenParties_57 : decode cX9_evenParties 57 = .ok (.istore 5, 2) := by decide +kernel
theorem dX9_evenParties_59 : decode cX9_evenParties 59 = .ok (.iload 5, 2) := by decide +kernel
theorem dX9_evenParties_61 : decode cX9_evenParties 61 = .ok (.iload_n 3, 1) := by decide +kernel
theorem dX9_evenParties_62 : decode cX9_evenParties 62 = .ok (.if_icmp .ge 9, 3) := by decide +kernel
theorem dX9_evenParties_65 : decode cX9_evenParties 65 = .ok (.iload 5, 2) := by decide +kernel
theorem dX9_evenParties_67 : decode cX9_evenParties 67 = .ok (.istore_n 3, 1) := by decide +kernel
theorem dX9_evenParties_68 : decode cX9_evenParties 68 = .ok (.iload 4, 2) := by decide +kernel
theorem dX9_evenParties_70 : decode cX9_evenParties 70 = .ok (.istore_n 2, 1) := by decide +kernel
theorem dX9_evenParties_71 : decode cX9_evenParties 71 = .ok (.iinc 4 1, 3) := by decide +kernel
theorem dX9_evenParties_74 : decode cX9_evenParties 74 = .ok (.goto (-52), 3) := by decide +kernel
theorem dX9_evenParties_77 : decode cX9_evenParties 77 = .ok (.aload_n 0, 1) := by decide +kernel
theorem dX9_evenParties_78 : decode cX9_evenParties 78 = .ok (.getfield 19, 3) := by decide +kernel
theorem dX9_evenParties_81 : decode cX9_evenParties 81 = .ok (.iload_n 2, 1) := by decide +kernel
theorem dX9_evenParties_82 : decode cX9_evenParties 82 = .ok (.i2l, 1) := by decide +kernel
theorem dX9_evenParties_83 : decode cX9_evenParties 83 = .ok (.aload_n 0, 1) := by decide +kernel
theorem dX9_evenParties_84 : decode cX9_evenParties 84 = .ok (.getfield 15, 3) := by decide +kernel
theorem dX9_evenParties_87 : decode cX9_evenParties 87 = .ok (.aload_n 0, 1) := by decide +kernel
theorem dX9_evenParties_88 : decode cX9_evenParties 88 = .ok (.getfield 15, 3) := by decide +kernel
theorem dX9_evenParties_91 : decode cX9_evenParties 91 = .ok (.getfield 97, 3) := by decide +kernel
theorem dX9_evenParties_94 : decode cX9_evenParties 94 = .ok (.iload_n 2, 1) := by decide +kernel
theorem dX9_evenParties_95 : decode cX9_evenParties 95 = .ok (.invokevirtual 93, 3) := by decide +kernel
theorem dX9_evenParties_98 : decode cX9_evenParties 98 = .ok (.i2l, 1) := by decide +kernel
theorem dX9_evenParties_99 : decode cX9_evenParties 99 = .ok (.invokevirtual 82, 3) := by decide +kernel
theorem dX9_evenParties_102 : decode cX9_evenParties 102 = .ok (.iload_n 3, 1) := by decide +kernel
theorem dX9_evenParties_103 : decode cX9_evenParties 103 = .ok (.ireturn, 1) := by decide +kernel
theorem dX10_init_0 : decode cX10_init 0 = .ok (.aload_n 0, 1) := by decide +kernel
theorem dX10_init_1 : decode cX10_init 1 = .ok (.invokespecial 3, 3) := by decide +kernel
theorem dX10_init_4 : decode cX10_init 4 = .ok (.aload_n 0, 1) := by decide +kernel
theorem dX10_init_5 : decode cX10_init 5 = .ok (.bipush 80, 2) := by decide +kernel
theorem dX10_init_7 : decode cX10_init 7 = .ok (.newarray .int, 2) := by decide +kernel
theorem dX10_init_9 : decode cX10_init 9 = .ok (.putfield 11, 3) := by decide +kernel
theorem dX10_init_12 : decode cX10_init 12 = .ok (.aload_n 0, 1) := by decide +kernel
theorem dX10_init_13 : decode cX10_init 13 = .ok (.iconst 0, 1) := by decide +kernel
theorem dX10_init_14 : decode cX10_init 14 = .ok (.putfield 15, 3) := by decide +kernel
theorem dX10_init_17 : decode cX10_init 17 = .ok (.return_, 1) := by decide +kernel
theorem dX10_addFour_0 : decode cX10_addFour 0 = .ok (.aload_n 0, 1) := by decide +kernel
theorem dX10_addFour_1 : decode cX10_addFour 1 = .ok (.getfield 15, 3) := by decide +kernel
theorem dX10_addFour_4 : decode cX10_addFour 4 = .ok (.ifCond .lt 14, 3) := by decide +kernel
theorem dX10_addFour_7 : decode cX10_addFour 7 = .ok (.aload_n 0, 1) := by decide +kernel
theorem dX10_addFour_8 : decode cX10_addFour 8 = .ok (.getfield 15, 3) := by decide +kernel
theorem dX10_addFour_11 : decode cX10_addFour 11 = .ok (.iconst 4, 1) := by decide +kernel
theorem dX10_addFour_12 : decode cX10_addFour 12 = .ok (.iadd, 1) := by decide +kernel
theorem dX10_addFour_13 : decode cX10_addFour 13 = .ok (.bipush 80, 2) := by decide +kernel
theorem dX10_addFour_15 : decode cX10_addFour 15 = .ok (.if_icmp .le 5, 3) := by decide +kernel
theorem dX10_addFour_18 : decode cX10_addFour 18 = .ok (.iconst (-1), 1) := by decide +kernel
theorem dX10_addFour_19 : decode cX10_addFour 19 = .ok (.ireturn, 1) := by decide +kernel
theorem dX10_addFour_20 : decode cX10_addFour 20 = .ok (.iconst 0, 1) := by decide +kernel
theorem dX10_addFour_21 : decode cX10_addFour 21 = .ok (.istore_n 2, 1) := by decide +kernel
theorem dX10_addFour_22 : decode cX10_addFour 22 = .ok (.iload_n 2, 1) := by decide +kernel
theorem dX10_addFour_23 : decode cX10_addFour 23 = .ok (.iconst 4, 1) := by decide +kernel
theorem dX10_addFour_24 : decode cX10_addFour 24 = .ok (.if_icmp .ge 33, 3) := by decide +kernel
theorem dX10_addFour_27 : decode cX10_addFour 27 = .ok (.aload_n 0, 1) := by decide +kernel
theorem dX10_addFour_28 : decode cX10_addFour 28 = .ok (.getfield 11, 3) := by decide +kernel
theorem dX10_addFour_31 : decode cX10_addFour 31 = .ok (.aload_n 0, 1) := by decide +kernel
theorem dX10_addFour_32 : decode cX10_addFour 32 = .ok (.getfield 15, 3) := by decide +kernel
theorem dX10_addFour_35 : decode cX10_addFour 35 = .ok (.iload_n 2, 1) := by decide +kernel
theorem dX10_addFour_36 : decode cX10_addFour 36 = .ok (.iadd, 1) := by decide +kernel
theorem dX10_addFour_37 : decode cX10_addFour 37 = .ok (.iload_n 1, 1) := by decide +kernel
theorem dX10_addFour_38 : decode cX10_addFour 38 = .ok (.bipush 24, 2) := by decide +kernel
theorem dX10_addFour_40 : decode cX10_addFour 40 = .ok (.bipush 8, 2) := by decide +kernel
theorem dX10_addFour_42 : decode cX10_addFour 42 = .ok (.iload_n 2, 1) := by decide +kernel
theorem dX10_addFour_43 : decode cX10_addFour 43 = .ok (.imul, 1) := by decide +kernel
theorem dX10_addFour_44 : decode cX10_addFour 44 = .ok (.isub, 1) := by decide +kernel
theorem dX10_addFour_45 : decode cX10_addFour 45 = .ok (.iushr, 1) := by decide +kernel
theorem dX10_addFour_46 : decode cX10_addFour 46 = .ok (.sipush 255, 3) := by decide +kernel
theorem dX10_addFour_49 : decode cX10_addFour 49 = .ok (.iand, 1) := by decide +kernel
theorem dX10_addFour_50 : decode cX10_addFour 50 = .ok (.iastore, 1) := by decide +kernel
theorem dX10_addFour_51 : decode cX10_addFour 51 = .ok (.iinc 2 1, 3) := by decide +kernel
theorem dX10_addFour_54 : decode cX10_addFour 54 = .ok (.goto (-32), 3) := by decide +kernel
theorem dX10_addFour_57 : decode cX10_addFour 57 = .ok (.aload_n 0, 1) := by decide +kernel
theorem dX10_addFour_58 : decode cX10_addFour 58 = .ok (.dup, 1) := by decide +kernel
theorem dX10_addFour_59 : decode cX10_addFour 59 = .ok (.getfield 15, 3) := by decide +kernel
theorem dX10_addFour_62 : decode cX10_addFour 62 = .ok (.iconst 4, 1) := by decide +kernel
theorem dX10_addFour_63 : decode cX10_addFour 63 = .ok (.iadd, 1) := by decide +kernel
theorem dX10_addFour_64 : decode cX10_addFour 64 = .ok (.putfield 15, 3) := by decide +kernel
theorem dX10_addFour_67 : decode cX10_addFour 67 = .ok (.aload_n 0, 1) := by decide +kernel
theorem dX10_addFour_68 : decode cX10_addFour 68 = .ok (.getfield 15, 3) := by decide +kernel
theorem dX10_addFour_71 : decode cX10_addFour 71 = .ok (.ireturn, 1) := by decide +kernel
theorem dX10_cutTo_0 : decode cX10_cutTo 0 = .ok (.iload_n 1, 1) := by decide +kernel
theorem dX10_cutTo_1 : decode cX10_cutTo 1 = .ok (.ifCond .lt 11, 3) := by decide +kernel
theorem dX10_cutTo_4 : decode cX10_cutTo 4 = .ok (.iload_n 1, 1) := by decide +kernel
theorem dX10_cutTo_5 : decode cX10_cutTo 5 = .ok (.aload_n 0, 1) := by decide +kernel
theorem dX10_cutTo_6 : decode cX10_cutTo 6 = .ok (.getfield 15, 3) := by decide +kernel
theorem dX10_cutTo_9 : decode cX10_cutTo 9 = .ok (.if_icmp .le 5, 3) := by decide +kernel
theorem dX10_cutTo_12 : decode cX10_cutTo 12 = .ok (.iconst 0, 1) := by decide +kernel
theorem dX10_cutTo_13 : decode cX10_cutTo 13 = .ok (.ireturn, 1) := by decide +kernel
theorem dX10_cutTo_14 : decode cX10_cutTo 14 = .ok (.aload_n 0, 1) := by decide +kernel
theorem dX10_cutTo_15 : decode cX10_cutTo 15 = .ok (.iload_n 1, 1) := by decide +kernel
theorem dX10_cutTo_16 : decode cX10_cutTo 16 = .ok (.putfield 15, 3) := by decide +kernel
theorem dX10_cutTo_19 : decode cX10_cutTo 19 = .ok (.iconst 1, 1) := by decide +kernel
theorem dX10_cutTo_20 : decode cX10_cutTo 20 = .ok (.ireturn, 1) := by decide +kernel
theorem dX10_clear_0 : decode cX10_clear 0 = .ok (.aload_n 0, 1) := by decide +kernel
theorem dX10_clear_1 : decode cX10_clear 1 = .ok (.iconst 0, 1) := by decide +kernel
theorem dX10_clear_2 : decode cX10_clear 2 = .ok (.putfield 15, 3) := by decide +kernel
theorem dX10_clear_5 : decode cX10_clear 5 = .ok (.return_, 1) := by decide +kernel
theorem dX10_at_0 : decode cX10_at 0 = .ok (.iload_n 1, 1) := by decide +kernel
theorem dX10_at_1 : decode cX10_at 1 = .ok (.ifCond .lt 26, 3) := by decide +kernel
theorem dX10_at_4 : decode cX10_at 4 = .ok (.iload_n 1, 1) := by decide +kernel
theorem dX10_at_5 : decode cX10_at 5 = .ok (.aload_n 0, 1) := by decide +kernel
theorem dX10_at_6 : decode cX10_at 6 = .ok (.getfield 15, 3) := by decide +kernel
theorem dX10_at_9 : decode cX10_at 9 = .ok (.if_icmp .ge 18, 3) := by decide +kernel
theorem dX10_at_12 : decode cX10_at 12 = .ok (.iload_n 1, 1) := by decide +kernel
theorem dX10_at_13 : decode cX10_at 13 = .ok (.bipush 80, 2) := by decide +kernel
theorem dX10_at_15 : decode cX10_at 15 = .ok (.if_icmp .ge 12, 3) := by decide +kernel
theorem dX10_at_18 : decode cX10_at 18 = .ok (.aload_n 0, 1) := by decide +kernel
theorem dX10_at_19 : decode cX10_at 19 = .ok (.getfield 11, 3) := by decide +kernel
theorem dX10_at_22 : decode cX10_at 22 = .ok (.iload_n 1, 1) := by decide +kernel
theorem dX10_at_23 : decode cX10_at 23 = .ok (.iaload, 1) := by decide +kernel
theorem dX10_at_24 : decode cX10_at 24 = .ok (.goto 4, 3) := by decide +kernel
theorem dX10_at_27 : decode cX10_at 27 = .ok (.iconst (-1), 1) := by decide +kernel
theorem dX10_at_28 : decode cX10_at 28 = .ok (.ireturn, 1) := by decide +kernel
theorem dX10_digitAt_0 : decode cX10_digitAt 0 = .ok (.aload_n 0, 1) := by decide +kernel
theorem dX10_digitAt_1 : decode cX10_digitAt 1 = .ok (.iload_n 1, 1) := by decide +kernel
theorem dX10_digitAt_2 : decode cX10_digitAt 2 = .ok (.invokevirtual 19, 3) := by decide +kernel
theorem dX10_digitAt_5 : decode cX10_digitAt 5 = .ok (.bipush 48, 2) := by decide +kernel
theorem dX10_digitAt_7 : decode cX10_digitAt 7 = .ok (.isub, 1) := by decide +kernel
theorem dX10_digitAt_8 : decode cX10_digitAt 8 = .ok (.ireturn, 1) := by decide +kernel
theorem dX10_isDigit_0 : decode cX10_isDigit 0 = .ok (.iload_n 0, 1) := by decide +kernel
theorem dX10_isDigit_1 : decode cX10_isDigit 1 = .ok (.bipush 48, 2) := by decide +kernel
theorem dX10_isDigit_3 : decode cX10_isDigit 3 = .ok (.if_icmp .lt 13, 3) := by decide +kernel
theorem dX10_isDigit_6 : decode cX10_isDigit 6 = .ok (.iload_n 0, 1) := by decide +kernel
theorem dX10_isDigit_7 : decode cX10_isDigit 7 = .ok (.bipush 57, 2) := by decide +kernel
theorem dX10_isDigit_9 : decode cX10_isDigit 9 = .ok (.if_icmp .gt 7, 3) := by decide +kernel
theorem dX10_isDigit_12 : decode cX10_isDigit 12 = .ok (.iconst 1, 1) := by decide +kernel
theorem dX10_isDigit_13 : decode cX10_isDigit 13 = .ok (.goto 4, 3) := by decide +kernel
theorem dX10_isDigit_16 : decode cX10_isDigit 16 = .ok (.iconst 0, 1) := by decide +kernel
theorem dX10_isDigit_17 : decode cX10_isDigit 17 = .ok (.ireturn, 1) := by decide +kernel
theorem dX10_wrongAsClimbers_0 : decode cX10_wrongAsClimbers 0 = .ok (.aload_n 0, 1) := by decide +kernel
theorem dX10_wrongAsClimbers_1 : decode cX10_wrongAsClimbers 1 = .ok (.getfield 15, 3) := by decide +kernel
theorem dX10_wrongAsClimbers_4 : decode cX10_wrongAsClimbers 4 = .ok (.ifCond .ne 5, 3) := by decide +kernel
theorem dX10_wrongAsClimbers_7 : decode cX10_wrongAsClimbers 7 = .ok (.iconst (-1), 1) := by decide +kernel
theorem dX10_wrongAsClimbers_8 : decode cX10_wrongAsClimbers 8 = .ok (.ireturn, 1) := by decide +kernel
theorem dX10_wrongAsClimbers_9 : decode cX10_wrongAsClimbers 9 = .ok (.iconst 0, 1) := by decide +kernel
theorem dX10_wrongAsClimbers_10 : decode cX10_wrongAsClimbers 10 = .ok (.istore_n 2, 1) := by decide +kernel
theorem dX10_wrongAsClimbers_11 : decode cX10_wrongAsClimbers 11 = .ok (.iload_n 2, 1) := by decide +kernel
theorem dX10_wrongAsClimbers_12 : decode cX10_wrongAsClimbers 12 = .ok (.aload_n 0, 1) := by decide +kernel
theorem dX10_wrongAsClimbers_13 : decode cX10_wrongAsClimbers 13 = .ok (.getfield 15, 3) := by decide +kernel
theorem dX10_wrongAsClimbers_16 : decode cX10_wrongAsClimbers 16 = .ok (.if_icmp .ge 69, 3) := by decide +kernel
theorem dX10_wrongAsClimbers_19 : decode cX10_wrongAsClimbers 19 = .ok (.iload_n 2, 1) := by decide +kernel
theorem dX10_wrongAsClimbers_20 : decode cX10_wrongAsClimbers 20 = .ok (.bipush 13, 2) := by decide +kernel
theorem dX10_wrongAsClimbers_22 : decode cX10_wrongAsClimbers 22 = .ok (.if_icmp .ge 63, 3) := by decide +kernel
theorem dX10_wrongAsClimbers_25 : decode cX10_wrongAsClimbers 25 = .ok (.iload_n 2, 1) := by decide +kernel
theorem dX10_wrongAsClimbers_26 : decode cX10_wrongAsClimbers 26 = .ok (.iconst 2, 1) := by decide +kernel
theorem dX10_wrongAsClimbers_27 : decode cX10_wrongAsClimbers 27 = .ok (.irem, 1) := by decide +kernel
theorem dX10_wrongAsClimbers_28 : decode cX10_wrongAsClimbers 28 = .ok (.ifCond .ne 29, 3) := by decide +kernel
theorem dX10_wrongAsClimbers_31 : decode cX10_wrongAsClimbers 31 = .ok (.aload_n 0, 1) := by decide +kernel
theorem dX10_wrongAsClimbers_32 : decode cX10_wrongAsClimbers 32 = .ok (.iload_n 2, 1) := by decide +kernel
theorem dX10_wrongAsClimbers_33 : decode cX10_wrongAsClimbers 33 = .ok (.invokevirtual 19, 3) := by decide +kernel
theorem dX10_wrongAsClimbers_36 : decode cX10_wrongAsClimbers 36 = .ok (.invokestatic 23, 3) := by decide +kernel
theorem dX10_wrongAsClimbers_39 : decode cX10_wrongAsClimbers 39 = .ok (.ifCond .eq 14, 3) := by decide +kernel
theorem dX10_wrongAsClimbers_42 : decode cX10_wrongAsClimbers 42 = .ok (.iload_n 2, 1) := by decide +kernel
theorem dX10_wrongAsClimbers_43 : decode cX10_wrongAsClimbers 43 = .ok (.iconst 2, 1) := by decide +kernel
theorem dX10_wrongAsClimbers_44 : decode cX10_wrongAsClimbers 44 = .ok (.idiv, 1) := by decide +kernel
theorem dX10_wrongAsClimbers_45 : decode cX10_wrongAsClimbers 45 = .ok (.iload_n 1, 1) := by decide +kernel
theorem dX10_wrongAsClimbers_46 : decode cX10_wrongAsClimbers 46 = .ok (.if_icmp .ge 7, 3) := by decide +kernel
theorem dX10_wrongAsClimbers_49 : decode cX10_wrongAsClimbers 49 = .ok (.iconst 1, 1) := by decide +kernel
theorem dX10_wrongAsClimbers_50 : decode cX10_wrongAsClimbers 50 = .ok (.goto 22, 3) := by decide +kernel
theorem dX10_wrongAsClimbers_53 : decode cX10_wrongAsClimbers 53 = .ok (.iconst 0, 1) := by decide +kernel
theorem dX10_wrongAsClimbers_54 : decode cX10_wrongAsClimbers 54 = .ok (.goto 18, 3) := by decide +kernel
theorem dX10_wrongAsClimbers_57 : decode cX10_wrongAsClimbers 57 = .ok (.aload_n 0, 1) := by decide +kernel
theorem dX10_wrongAsClimbers_58 : decode cX10_wrongAsClimbers 58 = .ok (.iload_n 2, 1) := by decide +kernel
theorem dX10_wrongAsClimbers_59 : decode cX10_wrongAsClimbers 59 = .ok (.invokevirtual 19, 3) := by decide +kernel
theorem dX10_wrongAsClimbers_62 : decode cX10_wrongAsClimbers 62 = .ok (.bipush 59, 2) := by decide +kernel
theorem dX10_wrongAsClimbers_64 : decode cX10_wrongAsClimbers 64 = .ok (.if_icmp .ne 7, 3) := by decide +kernel
theorem dX10_wrongAsClimbers_67 : decode cX10_wrongAsClimbers 67 = .ok (.iconst 1, 1) := by decide +kernel
theorem dX10_wrongAsClimbers_68 : decode cX10_wrongAsClimbers 68 = .ok (.goto 4, 3) := by decide +kernel
theorem dX10_wrongAsClimbers_71 : decode cX10_wrongAsClimbers 71 = .ok (.iconst 0, 1) := by decide +kernel
theorem dX10_wrongAsClimbers_72 : decode cX10_wrongAsClimbers 72 = .ok (.istore_n 3, 1) := by decide +kernel
theorem dX10_wrongAsClimbers_73 : decode cX10_wrongAsClimbers 73 = .ok (.iload_n 3, 1) := by decide +kernel
theorem dX10_wrongAsClimbers_74 : decode cX10_wrongAsClimbers 74 = .ok (.ifCond .ne 5, 3) := by decide +kernel
theorem dX10_wrongAsClimbers_77 : decode cX10_wrongAsClimbers 77 = .ok (.iload_n 2, 1) := by decide +kernel
theorem dX10_wrongAsClimbers_78 : decode cX10_wrongAsClimbers 78 = .ok (.ireturn, 1) := by decide +kernel
theorem dX10_wrongAsClimbers_79 : decode cX10_wrongAsClimbers 79 = .ok (.iinc 2 1, 3) := by decide +kernel
theorem dX10_wrongAsClimbers_82 : decode cX10_wrongAsClimbers 82 = .ok (.goto (-71), 3) := by decide +kernel
theorem dX10_wrongAsClimbers_85 : decode cX10_wrongAsClimbers 85 = .ok (.aload_n 0, 1) := by decide +kernel
theorem dX10_wrongAsClimbers_86 : decode cX10_wrongAsClimbers 86 = .ok (.getfield 15, 3) := by decide +kernel
theorem dX10_wrongAsClimbers_89 : decode cX10_wrongAsClimbers 89 = .ok (.bipush 13, 2) := by decide +kernel
theorem dX10_wrongAsClimbers_91 : decode cX10_wrongAsClimbers 91 = .ok (.if_icmp .le 6, 3) := by decide +kernel
theorem dX10_wrongAsClimbers_94 : decode cX10_wrongAsClimbers 94 = .ok (.bipush 13, 2) := by decide +kernel
theorem dX10_wrongAsClimbers_96 : decode cX10_wrongAsClimbers 96 = .ok (.ireturn, 1) := by decide +kernel
theorem dX10_wrongAsClimbers_97 : decode cX10_wrongAsClimbers 97 = .ok (.aload_n 0, 1) := by decide +kernel
theorem dX10_wrongAsClimbers_98 : decode cX10_wrongAsClimbers 98 = .ok (.getfield 15, 3) := by decide +kernel
theorem dX10_wrongAsClimbers_101 : decode cX10_wrongAsClimbers 101 = .ok (.iconst 2, 1) := by decide +kernel
theorem dX10_wrongAsClimbers_102 : decode cX10_wrongAsClimbers 102 = .ok (.irem, 1) := by decide +kernel
theorem dX10_wrongAsClimbers_103 : decode cX10_wrongAsClimbers 103 = .ok (.ifCond .ne 10, 3) := by decide +kernel
theorem dX10_wrongAsClimbers_106 : decode cX10_wrongAsClimbers 106 = .ok (.aload_n 0, 1) := by decide +kernel
theorem dX10_wrongAsClimbers_107 : decode cX10_wrongAsClimbers 107 = .ok (.getfield 15, 3) := by decide +kernel
theorem dX10_wrongAsClimbers_110 : decode cX10_wrongAsClimbers 110 = .ok (.goto 4, 3) := by decide +kernel
theorem dX10_wrongAsClimbers_113 : decode cX10_wrongAsClimbers 113 = .ok (.iconst (-1), 1) := by decide +kernel
theorem dX10_wrongAsClimbers_114 : decode cX10_wrongAsClimbers 114 = .ok (.ireturn, 1) := by decide +kernel
theorem dX10_wrongAsDay_0 : decode cX10_wrongAsDay 0 = .ok (.iconst 0, 1) := by decide +kernel
theorem dX10_wrongAsDay_1 : decode cX10_wrongAsDay 1 = .ok (.istore_n 1, 1) := by decide +kernel
theorem dX10_wrongAsDay_2 : decode cX10_wrongAsDay 2 = .ok (.iconst 0, 1) := by decide +kernel
theorem dX10_wrongAsDay_3 : decode cX10_wrongAsDay 3 = .ok (.istore_n 2, 1) := by decide +kernel
theorem dX10_wrongAsDay_4 : decode cX10_wrongAsDay 4 = .ok (.iload_n 2, 1) := by decide +kernel
theorem dX10_wrongAsDay_5 : decode cX10_wrongAsDay 5 = .ok (.aload_n 0, 1) := by decide +kernel
theorem dX10_wrongAsDay_6 : decode cX10_wrongAsDay 6 = .ok (.getfield 15, 3) := by decide +kernel
theorem dX10_wrongAsDay_9 : decode cX10_wrongAsDay 9 = .ok (.if_icmp .ge 47, 3) := by decide +kernel
theorem dX10_wrongAsDay_12 : decode cX10_wrongAsDay 12 = .ok (.iload_n 2, 1) := by decide +kernel
theorem dX10_wrongAsDay_13 : decode cX10_wrongAsDay 13 = .ok (.bipush 60, 2) := by decide +kernel
theorem dX10_wrongAsDay_15 : decode cX10_wrongAsDay 15 = .ok (.if_icmp .ge 41, 3) := by decide +kernel
theorem dX10_wrongAsDay_18 : decode cX10_wrongAsDay 18 = .ok (.iload_n 2, 1) := by decide +kernel
theorem dX10_wrongAsDay_19 : decode cX10_wrongAsDay 19 = .ok (.iload_n 1, 1) := by decide +kernel
theorem dX10_wrongAsDay_20 : decode cX10_wrongAsDay 20 = .ok (.aload_n 0, 1) := by decide +kernel
theorem dX10_wrongAsDay_21 : decode cX10_wrongAsDay 21 = .ok (.iload_n 1, 1) := by decide +kernel
theorem dX10_wrongAsDay_22 : decode cX10_wrongAsDay 22 = .ok (.invokevirtual 19, 3) := by decide +kernel
theorem dX10_wrongAsDay_25 : decode cX10_wrongAsDay 25 = .ok (.invokestatic 27, 3) := by decide +kernel
theorem dX10_wrongAsDay_28 : decode cX10_wrongAsDay 28 = .ok (.iadd, 1) := by decide +kernel
theorem dX10_wrongAsDay_29 : decode cX10_wrongAsDay 29 = .ok (.if_icmp .ne 5, 3) := by decide +kernel
theorem dX10_wrongAsDay_32 : decode cX10_wrongAsDay 32 = .ok (.iload_n 2, 1) := by decide +kernel
theorem dX10_wrongAsDay_33 : decode cX10_wrongAsDay 33 = .ok (.istore_n 1, 1) := by decide +kernel
theorem dX10_wrongAsDay_34 : decode cX10_wrongAsDay 34 = .ok (.aload_n 0, 1) := by decide +kernel
theorem dX10_wrongAsDay_35 : decode cX10_wrongAsDay 35 = .ok (.iload_n 2, 1) := by decide +kernel
theorem dX10_wrongAsDay_36 : decode cX10_wrongAsDay 36 = .ok (.invokevirtual 19, 3) := by decide +kernel
theorem dX10_wrongAsDay_39 : decode cX10_wrongAsDay 39 = .ok (.iload_n 2, 1) := by decide +kernel
theorem dX10_wrongAsDay_40 : decode cX10_wrongAsDay 40 = .ok (.iload_n 1, 1) := by decide +kernel
theorem dX10_wrongAsDay_41 : decode cX10_wrongAsDay 41 = .ok (.isub, 1) := by decide +kernel
theorem dX10_wrongAsDay_42 : decode cX10_wrongAsDay 42 = .ok (.invokestatic 30, 3) := by decide +kernel
theorem dX10_wrongAsDay_45 : decode cX10_wrongAsDay 45 = .ok (.ifCond .ne 5, 3) := by decide +kernel
theorem dX10_wrongAsDay_48 : decode cX10_wrongAsDay 48 = .ok (.iload_n 2, 1) := by decide +kernel
theorem dX10_wrongAsDay_49 : decode cX10_wrongAsDay 49 = .ok (.ireturn, 1) := by decide +kernel
theorem dX10_wrongAsDay_50 : decode cX10_wrongAsDay 50 = .ok (.iinc 2 1, 3) := by decide +kernel
theorem dX10_wrongAsDay_53 : decode cX10_wrongAsDay 53 = .ok (.goto (-49), 3) := by decide +kernel
theorem dX10_wrongAsDay_56 : decode cX10_wrongAsDay 56 = .ok (.aload_n 0, 1) := by decide +kernel
theorem dX10_wrongAsDay_57 : decode cX10_wrongAsDay 57 = .ok (.getfield 15, 3) := by decide +kernel
theorem dX10_wrongAsDay_60 : decode cX10_wrongAsDay 60 = .ok (.bipush 60, 2) := by decide +kernel
theorem dX10_wrongAsDay_62 : decode cX10_wrongAsDay 62 = .ok (.if_icmp .le 6, 3) := by decide +kernel
theorem dX10_wrongAsDay_65 : decode cX10_wrongAsDay 65 = .ok (.bipush 60, 2) := by decide +kernel
theorem dX10_wrongAsDay_67 : decode cX10_wrongAsDay 67 = .ok (.ireturn, 1) := by decide +kernel
theorem dX10_wrongAsDay_68 : decode cX10_wrongAsDay 68 = .ok (.aload_n 0, 1) := by decide +kernel
theorem dX10_wrongAsDay_69 : decode cX10_wrongAsDay 69 = .ok (.getfield 15, 3) := by decide +kernel
theorem dX10_wrongAsDay_72 : decode cX10_wrongAsDay 72 = .ok (.ifCond .eq 20, 3) := by decide +kernel
theorem dX10_wrongAsDay_75 : decode cX10_wrongAsDay 75 = .ok (.aload_n 0, 1) := by decide +kernel
theorem dX10_wrongAsDay_76 : decode cX10_wrongAsDay 76 = .ok (.getfield 15, 3) := by decide +kernel
theorem dX10_wrongAsDay_79 : decode cX10_wrongAsDay 79 = .ok (.iload_n 1, 1) := by decide +kernel
theorem dX10_wrongAsDay_80 : decode cX10_wrongAsDay 80 = .ok (.aload_n 0, 1) := by decide +kernel
theorem dX10_wrongAsDay_81 : decode cX10_wrongAsDay 81 = .ok (.iload_n 1, 1) := by decide +kernel
theorem dX10_wrongAsDay_82 : decode cX10_wrongAsDay 82 = .ok (.invokevirtual 19, 3) := by decide +kernel
theorem dX10_wrongAsDay_85 : decode cX10_wrongAsDay 85 = .ok (.invokestatic 27, 3) := by decide +kernel
theorem dX10_wrongAsDay_88 : decode cX10_wrongAsDay 88 = .ok (.iadd, 1) := by decide +kernel
theorem dX10_wrongAsDay_89 : decode cX10_wrongAsDay 89 = .ok (.if_icmp .ne 7, 3) := by decide +kernel
theorem dX10_wrongAsDay_92 : decode cX10_wrongAsDay 92 = .ok (.iconst (-1), 1) := by decide +kernel
theorem dX10_wrongAsDay_93 : decode cX10_wrongAsDay 93 = .ok (.goto 7, 3) := by decide +kernel
theorem dX10_wrongAsDay_96 : decode cX10_wrongAsDay 96 = .ok (.aload_n 0, 1) := by decide +kernel
theorem dX10_wrongAsDay_97 : decode cX10_wrongAsDay 97 = .ok (.getfield 15, 3) := by decide +kernel
theorem dX10_wrongAsDay_100 : decode cX10_wrongAsDay 100 = .ok (.ireturn, 1) := by decide +kernel
theorem dX10_goodInAct_0 : decode cX10_goodInAct 0 = .ok (.iload_n 1, 1) := by decide +kernel
theorem dX10_goodInAct_1 : decode cX10_goodInAct 1 = .ok (.ifCond .ne 45, 3) := by decide +kernel
theorem dX10_goodInAct_4 : decode cX10_goodInAct 4 = .ok (.iload_n 0, 1) := by decide +kernel
theorem dX10_goodInAct_5 : decode cX10_goodInAct 5 = .ok (.bipush 110, 2) := by decide +kernel
theorem dX10_goodInAct_7 : decode cX10_goodInAct 7 = .ok (.if_icmp .eq 33, 3) := by decide +kernel
theorem dX10_goodInAct_10 : decode cX10_goodInAct 10 = .ok (.iload_n 0, 1) := by decide +kernel
theorem dX10_goodInAct_11 : decode cX10_goodInAct 11 = .ok (.bipush 115, 2) := by decide +kernel
theorem dX10_goodInAct_13 : decode cX10_goodInAct 13 = .ok (.if_icmp .eq 27, 3) := by decide +kernel
theorem dX10_goodInAct_16 : decode cX10_goodInAct 16 = .ok (.iload_n 0, 1) := by decide +kernel
theorem dX10_goodInAct_17 : decode cX10_goodInAct 17 = .ok (.bipush 98, 2) := by decide +kernel
theorem dX10_goodInAct_19 : decode cX10_goodInAct 19 = .ok (.if_icmp .eq 21, 3) := by decide +kernel
theorem dX10_goodInAct_22 : decode cX10_goodInAct 22 = .ok (.iload_n 0, 1) := by decide +kernel
theorem dX10_goodInAct_23 : decode cX10_goodInAct 23 = .ok (.bipush 119, 2) := by decide +kernel
theorem dX10_goodInAct_25 : decode cX10_goodInAct 25 = .ok (.if_icmp .eq 15, 3) := by decide +kernel
theorem dX10_goodInAct_28 : decode cX10_goodInAct 28 = .ok (.iload_n 0, 1) := by decide +kernel
theorem dX10_goodInAct_29 : decode cX10_goodInAct 29 = .ok (.bipush 102, 2) := by decide +kernel
theorem dX10_goodInAct_31 : decode cX10_goodInAct 31 = .ok (.if_icmp .eq 9, 3) := by decide +kernel
theorem dX10_goodInAct_34 : decode cX10_goodInAct 34 = .ok (.iload_n 0, 1) := by decide +kernel
theorem dX10_goodInAct_35 : decode cX10_goodInAct 35 = .ok (.bipush 116, 2) := by decide +kernel
theorem dX10_goodInAct_37 : decode cX10_goodInAct 37 = .ok (.if_icmp .ne 7, 3) := by decide +kernel
theorem dX10_goodInAct_40 : decode cX10_goodInAct 40 = .ok (.iconst 1, 1) := by decide +kernel
theorem dX10_goodInAct_41 : decode cX10_goodInAct 41 = .ok (.goto 4, 3) := by decide +kernel
theorem dX10_goodInAct_44 : decode cX10_goodInAct 44 = .ok (.iconst 0, 1) := by decide +kernel
theorem dX10_goodInAct_45 : decode cX10_goodInAct 45 = .ok (.ireturn, 1) := by decide +kernel
theorem dX10_goodInAct_46 : decode cX10_goodInAct 46 = .ok (.iload_n 0, 1) := by decide +kernel
theorem dX10_goodInAct_47 : decode cX10_goodInAct 47 = .ok (.invokestatic 23, 3) := by decide +kernel
theorem dX10_goodInAct_50 : decode cX10_goodInAct 50 = .ok (.ifCond .eq 18, 3) := by decide +kernel
theorem dX10_goodInAct_53 : decode cX10_goodInAct 53 = .ok (.iload_n 1, 1) := by decide +kernel
theorem dX10_goodInAct_54 : decode cX10_goodInAct 54 = .ok (.iconst 1, 1) := by decide +kernel
theorem dX10_goodInAct_55 : decode cX10_goodInAct 55 = .ok (.if_icmp .eq 9, 3) := by decide +kernel
theorem dX10_goodInAct_58 : decode cX10_goodInAct 58 = .ok (.iload_n 0, 1) := by decide +kernel
theorem dX10_goodInAct_59 : decode cX10_goodInAct 59 = .ok (.bipush 48, 2) := by decide +kernel
theorem dX10_goodInAct_61 : decode cX10_goodInAct 61 = .ok (.if_icmp .eq 7, 3) := by decide +kernel
theorem dX10_goodInAct_64 : decode cX10_goodInAct 64 = .ok (.iconst 1, 1) := by decide +kernel
theorem dX10_goodInAct_65 : decode cX10_goodInAct 65 = .ok (.goto 4, 3) := by decide +kernel
theorem dX10_goodInAct_68 : decode cX10_goodInAct 68 = .ok (.iconst 0, 1) := by decide +kernel
theorem dX10_goodInAct_69 : decode cX10_goodInAct 69 = .ok (.ireturn, 1) := by decide +kernel
theorem dX10_signsOfAct_0 : decode cX10_signsOfAct 0 = .ok (.iload_n 0, 1) := by decide +kernel
theorem dX10_signsOfAct_1 : decode cX10_signsOfAct 1 = .ok (.bipush 119, 2) := by decide +kernel
theorem dX10_signsOfAct_3 : decode cX10_signsOfAct 3 = .ok (.if_icmp .eq 9, 3) := by decide +kernel
theorem dX10_signsOfAct_6 : decode cX10_signsOfAct 6 = .ok (.iload_n 0, 1) := by decide +kernel
theorem dX10_signsOfAct_7 : decode cX10_signsOfAct 7 = .ok (.bipush 102, 2) := by decide +kernel
theorem dX10_signsOfAct_9 : decode cX10_signsOfAct 9 = .ok (.if_icmp .ne 7, 3) := by decide +kernel
theorem dX10_signsOfAct_12 : decode cX10_signsOfAct 12 = .ok (.iconst 3, 1) := by decide +kernel
theorem dX10_signsOfAct_13 : decode cX10_signsOfAct 13 = .ok (.goto 4, 3) := by decide +kernel
theorem dX10_signsOfAct_16 : decode cX10_signsOfAct 16 = .ok (.iconst 2, 1) := by decide +kernel
theorem dX10_signsOfAct_17 : decode cX10_signsOfAct 17 = .ok (.ireturn, 1) := by decide +kernel
theorem dX11_init_0 : decode cX11_init 0 = .ok (.aload_n 0, 1) := by decide +kernel
theorem dX11_init_1 : decode cX11_init 1 = .ok (.invokespecial 1, 3) := by decide +kernel
theorem dX11_init_4 : decode cX11_init 4 = .ok (.aload_n 0, 1) := by decide +kernel
theorem dX11_init_5 : decode cX11_init 5 = .ok (.new 7, 3) := by decide +kernel
theorem dX11_init_8 : decode cX11_init 8 = .ok (.dup, 1) := by decide +kernel
theorem dX11_init_9 : decode cX11_init 9 = .ok (.invokespecial 9, 3) := by decide +kernel
theorem dX11_init_12 : decode cX11_init 12 = .ok (.putfield 10, 3) := by decide +kernel
theorem dX11_init_15 : decode cX11_init 15 = .ok (.aload_n 0, 1) := by decide +kernel
theorem dX11_init_16 : decode cX11_init 16 = .ok (.new 16, 3) := by decide +kernel
theorem dX11_init_19 : decode cX11_init 19 = .ok (.dup, 1) := by decide +kernel
theorem dX11_init_20 : decode cX11_init 20 = .ok (.invokespecial 18, 3) := by decide +kernel
theorem dX11_init_23 : decode cX11_init 23 = .ok (.putfield 19, 3) := by decide +kernel
theorem dX11_init_26 : decode cX11_init 26 = .ok (.aload_n 0, 1) := by decide +kernel
theorem dX11_init_27 : decode cX11_init 27 = .ok (.new 16, 3) := by decide +kernel
theorem dX11_init_30 : decode cX11_init 30 = .ok (.dup, 1) := by decide +kernel
theorem dX11_init_31 : decode cX11_init 31 = .ok (.invokespecial 18, 3) := by decide +kernel
theorem dX11_init_34 : decode cX11_init 34 = .ok (.putfield 23, 3) := by decide +kernel
theorem dX11_init_37 : decode cX11_init 37 = .ok (.aload_n 0, 1) := by decide +kernel
theorem dX11_init_38 : decode cX11_init 38 = .ok (.new 26, 3) := by decide +kernel
theorem dX11_init_41 : decode cX11_init 41 = .ok (.dup, 1) := by decide +kernel
theorem dX11_init_42 : decode cX11_init 42 = .ok (.invokespecial 28, 3) := by decide +kernel
theorem dX11_init_45 : decode cX11_init 45 = .ok (.putfield 29, 3) := by decide +kernel
theorem dX11_init_48 : decode cX11_init 48 = .ok (.aload_n 0, 1) := by decide +kernel
theorem dX11_init_49 : decode cX11_init 49 = .ok (.new 33, 3) := by decide +kernel
theorem dX11_init_52 : decode cX11_init 52 = .ok (.dup, 1) := by decide +kernel
theorem dX11_init_53 : decode cX11_init 53 = .ok (.invokespecial 35, 3) := by decide +kernel
theorem dX11_init_56 : decode cX11_init 56 = .ok (.putfield 36, 3) := by decide +kernel
theorem dX11_init_59 : decode cX11_init 59 = .ok (.aload_n 0, 1) := by decide +kernel
theorem dX11_init_60 : decode cX11_init 60 = .ok (.new 40, 3) := by decide +kernel
theorem dX11_init_63 : decode cX11_init 63 = .ok (.dup, 1) := by decide +kernel
theorem dX11_init_64 : decode cX11_init 64 = .ok (.invokespecial 42, 3) := by decide +kernel
theorem dX11_init_67 : decode cX11_init 67 = .ok (.putfield 43, 3) := by decide +kernel
theorem dX11_init_70 : decode cX11_init 70 = .ok (.aload_n 0, 1) := by decide +kernel
theorem dX11_init_71 : decode cX11_init 71 = .ok (.new 47, 3) := by decide +kernel
theorem dX11_init_74 : decode cX11_init 74 = .ok (.dup, 1) := by decide +kernel
theorem dX11_init_75 : decode cX11_init 75 = .ok (.aload_n 0, 1) := by decide +kernel
theorem dX11_init_76 : decode cX11_init 76 = .ok (.getfield 10, 3) := by decide +kernel
theorem dX11_init_79 : decode cX11_init 79 = .ok (.aload_n 0, 1) := by decide +kernel
theorem dX11_init_80 : decode cX11_init 80 = .ok (.getfield 19, 3) := by decide +kernel
theorem dX11_init_83 : decode cX11_init 83 = .ok (.aload_n 0, 1) := by decide +kernel
theorem dX11_init_84 : decode cX11_init 84 = .ok (.getfield 36, 3) := by decide +kernel
theorem dX11_init_87 : decode cX11_init 87 = .ok (.invokespecial 49, 3) := by decide +kernel
theorem dX11_init_90 : decode cX11_init 90 = .ok (.putfield 52, 3) := by decide +kernel
theorem dX11_init_93 : decode cX11_init 93 = .ok (.aload_n 0, 1) := by decide +kernel
theorem dX11_init_94 : decode cX11_init 94 = .ok (.new 56, 3) := by decide +kernel
theorem dX11_init_97 : decode cX11_init 97 = .ok (.dup, 1) := by decide +kernel
theorem dX11_init_98 : decode cX11_init 98 = .ok (.aload_n 0, 1) := by decide +kernel
theorem dX11_init_99 : decode cX11_init 99 = .ok (.getfield 10, 3) := by decide +kernel
theorem dX11_init_102 : decode cX11_init 102 = .ok (.aload_n 0, 1) := by decide +kernel
theorem dX11_init_103 : decode cX11_init 103 = .ok (.getfield 19, 3) := by decide +kernel
theorem dX11_init_106 : decode cX11_init 106 = .ok (.aload_n 0, 1) := by decide +kernel
theorem dX11_init_107 : decode cX11_init 107 = .ok (.getfield 36, 3) := by decide +kernel
theorem dX11_init_110 : decode cX11_init 110 = .ok (.invokespecial 58, 3) := by decide +kernel
theorem dX11_init_113 : decode cX11_init 113 = .ok (.putfield 59, 3) := by decide +kernel
theorem dX11_init_116 : decode cX11_init 116 = .ok (.aload_n 0, 1) := by decide +kernel
theorem dX11_init_117 : decode cX11_init 117 = .ok (.new 63, 3) := by decide +kernel
theorem dX11_init_120 : decode cX11_init 120 = .ok (.dup, 1) := by decide +kernel
theorem dX11_init_121 : decode cX11_init 121 = .ok (.aload_n 0, 1) := by decide +kernel
theorem dX11_init_122 : decode cX11_init 122 = .ok (.getfield 10, 3) := by decide +kernel
theorem dX11_init_125 : decode cX11_init 125 = .ok (.aload_n 0, 1) := by decide +kernel
theorem dX11_init_126 : decode cX11_init 126 = .ok (.getfield 36, 3) := by decide +kernel
theorem dX11_init_129 : decode cX11_init 129 = .ok (.invokespecial 65, 3) := by decide +kernel
theorem dX11_init_132 : decode cX11_init 132 = .ok (.putfield 68, 3) := by decide +kernel
theorem dX11_init_135 : decode cX11_init 135 = .ok (.aload_n 0, 1) := by decide +kernel
theorem dX11_init_136 : decode cX11_init 136 = .ok (.new 72, 3) := by decide +kernel
theorem dX11_init_139 : decode cX11_init 139 = .ok (.dup, 1) := by decide +kernel
theorem dX11_init_140 : decode cX11_init 140 = .ok (.aload_n 0, 1) := by decide +kernel
theorem dX11_init_141 : decode cX11_init 141 = .ok (.getfield 10, 3) := by decide +kernel
theorem dX11_init_144 : decode cX11_init 144 = .ok (.aload_n 0, 1) := by decide +kernel
theorem dX11_init_145 : decode cX11_init 145 = .ok (.getfield 36, 3) := by decide +kernel
theorem dX11_init_148 : decode cX11_init 148 = .ok (.invokespecial 74, 3) := by decide +kernel
theorem dX11_init_151 : decode cX11_init 151 = .ok (.putfield 75, 3) := by decide +kernel
theorem dX11_init_154 : decode cX11_init 154 = .ok (.aload_n 0, 1) := by decide +kernel
theorem dX11_init_155 : decode cX11_init 155 = .ok (.new 79, 3) := by decide +kernel
theorem dX11_init_158 : decode cX11_init 158 = .ok (.dup, 1) := by decide +kernel
theorem dX11_init_159 : decode cX11_init 159 = .ok (.aload_n 0, 1) := by decide +kernel
theorem dX11_init_160 : decode cX11_init 160 = .ok (.getfield 36, 3) := by decide +kernel
theorem dX11_init_163 : decode cX11_init 163 = .ok (.invokespecial 81, 3) := by decide +kernel
theorem dX11_init_166 : decode cX11_init 166 = .ok (.putfield 84, 3) := by decide +kernel
theorem dX11_init_169 : decode cX11_init 169 = .ok (.aload_n 0, 1) := by decide +kernel
theorem dX11_init_170 : decode cX11_init 170 = .ok (.new 88, 3) := by decide +kernel
theorem dX11_init_173 : decode cX11_init 173 = .ok (.dup, 1) := by decide +kernel
theorem dX11_init_174 : decode cX11_init 174 = .ok (.aload_n 0, 1) := by decide +kernel
theorem dX11_init_175 : decode cX11_init 175 = .ok (.getfield 36, 3) := by decide +kernel
theorem dX11_init_178 : decode cX11_init 178 = .ok (.invokespecial 90, 3) := by decide +kernel
theorem dX11_init_181 : decode cX11_init 181 = .ok (.putfield 91, 3) := by decide +kernel
theorem dX11_init_184 : decode cX11_init 184 = .ok (.return_, 1) := by decide +kernel
theorem dX11_sign_0 : decode cX11_sign 0 = .ok (.aload_n 0, 1) := by decide +kernel
theorem dX11_sign_1 : decode cX11_sign 1 = .ok (.getfield 29, 3) := by decide +kernel
theorem dX11_sign_4 : decode cX11_sign 4 = .ok (.iload_n 1, 1) := by decide +kernel
theorem dX11_sign_5 : decode cX11_sign 5 = .ok (.invokevirtual 95, 3) := by decide +kernel
theorem dX11_sign_8 : decode cX11_sign 8 = .ok (.ireturn, 1) := by decide +kernel
theorem dX11_end_0 : decode cX11_end 0 = .ok (.aload_n 0, 1) := by decide +kernel
theorem dX11_end_1 : decode cX11_end 1 = .ok (.getfield 29, 3) := by decide +kernel
theorem dX11_end_4 : decode cX11_end 4 = .ok (.iload_n 1, 1) := by decide +kernel
theorem dX11_end_5 : decode cX11_end 5 = .ok (.invokevirtual 99, 3) := by decide +kernel
theorem dX11_end_8 : decode cX11_end 8 = .ok (.ireturn, 1) := by decide +kernel
theorem dX11_climbers_0 : decode cX11_climbers 0 = .ok (.aload_n 0, 1) := by decide +kernel
theorem dX11_climbers_1 : decode cX11_climbers 1 = .ok (.getfield 29, 3) := by decide +kernel
theorem dX11_climbers_4 : decode cX11_climbers 4 = .ok (.bipush 7, 2) := by decide +kernel
theorem dX11_climbers_6 : decode cX11_climbers 6 = .ok (.aload_n 0, 1) := by decide +kernel
theorem dX11_climbers_7 : decode cX11_climbers 7 = .ok (.getfield 10, 3) := by decide +kernel
theorem dX11_climbers_10 : decode cX11_climbers 10 = .ok (.getfield 103, 3) := by decide +kernel
theorem dX11_climbers_13 : decode cX11_climbers 13 = .ok (.isub, 1) := by decide +kernel
theorem dX11_climbers_14 : decode cX11_climbers 14 = .ok (.invokevirtual 107, 3) := by decide +kernel
theorem dX11_climbers_17 : decode cX11_climbers 17 = .ok (.istore_n 1, 1) := by decide +kernel
theorem dX11_climbers_18 : decode cX11_climbers 18 = .ok (.iconst 0, 1) := by decide +kernel
theorem dX11_climbers_19 : decode cX11_climbers 19 = .ok (.istore_n 2, 1) := by decide +kernel
theorem dX11_climbers_20 : decode cX11_climbers 20 = .ok (.iload_n 1, 1) := by decide +kernel
theorem dX11_climbers_21 : decode cX11_climbers 21 = .ok (.iconst (-1), 1) := by decide +kernel
theorem dX11_climbers_22 : decode cX11_climbers 22 = .ok (.if_icmp .ne 51, 3) := by decide +kernel
theorem dX11_climbers_25 : decode cX11_climbers 25 = .ok (.iconst 0, 1) := by decide +kernel
theorem dX11_climbers_26 : decode cX11_climbers 26 = .ok (.istore_n 3, 1) := by decide +kernel
theorem dX11_climbers_27 : decode cX11_climbers 27 = .ok (.iload_n 3, 1) := by decide +kernel
theorem dX11_climbers_28 : decode cX11_climbers 28 = .ok (.aload_n 0, 1) := by decide +kernel
theorem dX11_climbers_29 : decode cX11_climbers 29 = .ok (.getfield 29, 3) := by decide +kernel
theorem dX11_climbers_32 : decode cX11_climbers 32 = .ok (.getfield 110, 3) := by decide +kernel
theorem dX11_climbers_35 : decode cX11_climbers 35 = .ok (.if_icmp .ge 27, 3) := by decide +kernel
theorem dX11_climbers_38 : decode cX11_climbers 38 = .ok (.aload_n 0, 1) := by decide +kernel
theorem dX11_climbers_39 : decode cX11_climbers 39 = .ok (.getfield 10, 3) := by decide +kernel
theorem dX11_climbers_42 : decode cX11_climbers 42 = .ok (.aload_n 0, 1) := by decide +kernel
theorem dX11_climbers_43 : decode cX11_climbers 43 = .ok (.getfield 29, 3) := by decide +kernel
theorem dX11_climbers_46 : decode cX11_climbers 46 = .ok (.iload_n 3, 1) := by decide +kernel
theorem dX11_climbers_47 : decode cX11_climbers 47 = .ok (.invokevirtual 111, 3) := by decide +kernel
theorem dX11_climbers_50 : decode cX11_climbers 50 = .ok (.invokevirtual 114, 3) := by decide +kernel
theorem dX11_climbers_53 : decode cX11_climbers 53 = .ok (.iinc 2 1, 3) := by decide +kernel
theorem dX11_climbers_56 : decode cX11_climbers 56 = .ok (.iinc 3 2, 3) := by decide +kernel
theorem dX11_climbers_59 : decode cX11_climbers 59 = .ok (.goto (-32), 3) := by decide +kernel
theorem dX11_climbers_62 : decode cX11_climbers 62 = .ok (.iload_n 2, 1) := by decide +kernel
theorem dX11_climbers_63 : decode cX11_climbers 63 = .ok (.ifCond .le 10, 3) := by decide +kernel
theorem dX11_climbers_66 : decode cX11_climbers 66 = .ok (.aload_n 0, 1) := by decide +kernel
theorem dX11_climbers_67 : decode cX11_climbers 67 = .ok (.getfield 43, 3) := by decide +kernel
theorem dX11_climbers_70 : decode cX11_climbers 70 = .ok (.invokevirtual 118, 3) := by decide +kernel
theorem dX11_climbers_73 : decode cX11_climbers 73 = .ok (.aload_n 0, 1) := by decide +kernel
theorem dX11_climbers_74 : decode cX11_climbers 74 = .ok (.getfield 29, 3) := by decide +kernel
theorem dX11_climbers_77 : decode cX11_climbers 77 = .ok (.invokevirtual 121, 3) := by decide +kernel
theorem dX11_climbers_80 : decode cX11_climbers 80 = .ok (.iload_n 1, 1) := by decide +kernel
theorem dX11_climbers_81 : decode cX11_climbers 81 = .ok (.iconst (-1), 1) := by decide +kernel
theorem dX11_climbers_82 : decode cX11_climbers 82 = .ok (.if_icmp .ne 7, 3) := by decide +kernel
theorem dX11_climbers_85 : decode cX11_climbers 85 = .ok (.iload_n 2, 1) := by decide +kernel
theorem dX11_climbers_86 : decode cX11_climbers 86 = .ok (.goto 6, 3) := by decide +kernel
theorem dX11_climbers_89 : decode cX11_climbers 89 = .ok (.iconst (-1), 1) := by decide +kernel
theorem dX11_climbers_90 : decode cX11_climbers 90 = .ok (.iload_n 1, 1) := by decide +kernel
theorem dX11_climbers_91 : decode cX11_climbers 91 = .ok (.isub, 1) := by decide +kernel
theorem dX11_climbers_92 : decode cX11_climbers 92 = .ok (.ireturn, 1) := by decide +kernel
theorem dX11_rule_0 : decode cX11_rule 0 = .ok (.aload_n 0, 1) := by decide +kernel
theorem dX11_rule_1 : decode cX11_rule 1 = .ok (.getfield 23, 3) := by decide +kernel
theorem dX11_rule_4 : decode cX11_rule 4 = .ok (.aload_n 0, 1) := by decide +kernel
theorem dX11_rule_5 : decode cX11_rule 5 = .ok (.getfield 29, 3) := by decide +kernel
theorem dX11_rule_8 : decode cX11_rule 8 = .ok (.invokevirtual 124, 3) := by decide +kernel
theorem dX11_rule_11 : decode cX11_rule 11 = .ok (.istore_n 1, 1) := by decide +kernel
theorem dX11_rule_12 : decode cX11_rule 12 = .ok (.aload_n 0, 1) := by decide +kernel
theorem dX11_rule_13 : decode cX11_rule 13 = .ok (.getfield 29, 3) := by decide +kernel
theorem dX11_rule_16 : decode cX11_rule 16 = .ok (.invokevirtual 121, 3) := by decide +kernel
theorem dX11_rule_19 : decode cX11_rule 19 = .ok (.iload_n 1, 1) := by decide +kernel
theorem dX11_rule_20 : decode cX11_rule 20 = .ok (.iconst (-1), 1) := by decide +kernel
theorem dX11_rule_21 : decode cX11_rule 21 = .ok (.if_icmp .eq 7, 3) := by decide +kernel
theorem dX11_rule_24 : decode cX11_rule 24 = .ok (.iconst (-1), 1) := by decide +kernel
theorem dX11_rule_25 : decode cX11_rule 25 = .ok (.iload_n 1, 1) := by decide +kernel
theorem dX11_rule_26 : decode cX11_rule 26 = .ok (.isub, 1) := by decide +kernel
theorem dX11_rule_27 : decode cX11_rule 27 = .ok (.ireturn, 1) := by decide +kernel
theorem dX11_rule_28 : decode cX11_rule 28 = .ok (.aload_n 0, 1) := by decide +kernel
theorem dX11_rule_29 : decode cX11_rule 29 = .ok (.getfield 19, 3) := by decide +kernel
theorem dX11_rule_32 : decode cX11_rule 32 = .ok (.aload_n 0, 1) := by decide +kernel
theorem dX11_rule_33 : decode cX11_rule 33 = .ok (.getfield 23, 3) := by decide +kernel
theorem dX11_rule_36 : decode cX11_rule 36 = .ok (.invokevirtual 128, 3) := by decide +kernel
theorem dX11_rule_39 : decode cX11_rule 39 = .ok (.iconst 0, 1) := by decide +kernel
theorem dX11_rule_40 : decode cX11_rule 40 = .ok (.ireturn, 1) := by decide +kernel
theorem dX11_top_0 : decode cX11_top 0 = .ok (.aload_n 0, 1) := by decide +kernel
theorem dX11_top_1 : decode cX11_top 1 = .ok (.getfield 43, 3) := by decide +kernel
theorem dX11_top_4 : decode cX11_top 4 = .ok (.aload_n 0, 1) := by decide +kernel
theorem dX11_top_5 : decode cX11_top 5 = .ok (.getfield 10, 3) := by decide +kernel
theorem dX11_top_8 : decode cX11_top 8 = .ok (.invokevirtual 132, 3) := by decide +kernel
theorem dX11_top_11 : decode cX11_top 11 = .ok (.aload_n 0, 1) := by decide +kernel
theorem dX11_top_12 : decode cX11_top 12 = .ok (.aload_n 0, 1) := by decide +kernel
theorem dX11_top_13 : decode cX11_top 13 = .ok (.getfield 10, 3) := by decide +kernel
theorem dX11_top_16 : decode cX11_top 16 = .ok (.iload_n 1, 1) := by decide +kernel
theorem dX11_top_17 : decode cX11_top 17 = .ok (.invokevirtual 136, 3) := by decide +kernel
theorem dX11_top_20 : decode cX11_top 20 = .ok (.invokevirtual 139, 3) := by decide +kernel
theorem dX11_top_23 : decode cX11_top 23 = .ok (.ireturn, 1) := by decide +kernel
theorem dX11_climber_0 : decode cX11_climber 0 = .ok (.aload_n 0, 1) := by decide +kernel
theorem dX11_climber_1 : decode cX11_climber 1 = .ok (.getfield 10, 3) := by decide +kernel
theorem dX11_climber_4 : decode cX11_climber 4 = .ok (.iload_n 1, 1) := by decide +kernel
theorem dX11_climber_5 : decode cX11_climber 5 = .ok (.invokevirtual 142, 3) := by decide +kernel
theorem dX11_climber_8 : decode cX11_climber 8 = .ok (.ifCond .ne 13, 3) := by decide +kernel
theorem dX11_climber_11 : decode cX11_climber 11 = .ok (.new 145, 3) := by decide +kernel
theorem dX11_climber_14 : decode cX11_climber 14 = .ok (.dup, 1) := by decide +kernel
theorem dX11_climber_15 : decode cX11_climber 15 = .ok (.ldc 147, 2) := by decide +kernel
theorem dX11_climber_17 : decode cX11_climber 17 = .ok (.invokespecial 149, 3) := by decide +kernel
theorem dX11_climber_20 : decode cX11_climber 20 = .ok (.athrow, 1) := by decide +kernel
theorem dX11_climber_21 : decode cX11_climber 21 = .ok (.iload_n 2, 1) := by decide +kernel
theorem dX11_climber_22 : decode cX11_climber 22 = .ok (.tableswitch 101 0 5 #[38, 48, 58, 68, 78, 88], 38) := by decide +kernel
theorem dX11_climber_60 : decode cX11_climber 60 = .ok (.aload_n 0, 1) := by decide +kernel
theorem dX11_climber_61 : decode cX11_climber 61 = .ok (.getfield 10, 3) := by decide +kernel
theorem dX11_climber_64 : decode cX11_climber 64 = .ok (.getfield 152, 3) := by decide +kernel
theorem dX11_climber_67 : decode cX11_climber 67 = .ok (.iload_n 1, 1) := by decide +kernel
theorem dX11_climber_68 : decode cX11_climber 68 = .ok (.iaload, 1) := by decide +kernel
theorem dX11_climber_69 : decode cX11_climber 69 = .ok (.ireturn, 1) := by decide +kernel
theorem dX11_climber_70 : decode cX11_climber 70 = .ok (.aload_n 0, 1) := by decide +kernel
theorem dX11_climber_71 : decode cX11_climber 71 = .ok (.getfield 10, 3) := by decide +kernel
theorem dX11_climber_74 : decode cX11_climber 74 = .ok (.getfield 156, 3) := by decide +kernel
theorem dX11_climber_77 : decode cX11_climber 77 = .ok (.iload_n 1, 1) := by decide +kernel
theorem dX11_climber_78 : decode cX11_climber 78 = .ok (.iaload, 1) := by decide +kernel
theorem dX11_climber_79 : decode cX11_climber 79 = .ok (.ireturn, 1) := by decide +kernel
theorem dX11_climber_80 : decode cX11_climber 80 = .ok (.aload_n 0, 1) := by decide +kernel
theorem dX11_climber_81 : decode cX11_climber 81 = .ok (.getfield 10, 3) := by decide +kernel
theorem dX11_climber_84 : decode cX11_climber 84 = .ok (.getfield 159, 3) := by decide +kernel
theorem dX11_climber_87 : decode cX11_climber 87 = .ok (.iload_n 1, 1) := by decide +kernel
theorem dX11_climber_88 : decode cX11_climber 88 = .ok (.iaload, 1) := by decide +kernel
theorem dX11_climber_89 : decode cX11_climber 89 = .ok (.ireturn, 1) := by decide +kernel
theorem dX11_climber_90 : decode cX11_climber 90 = .ok (.aload_n 0, 1) := by decide +kernel
theorem dX11_climber_91 : decode cX11_climber 91 = .ok (.getfield 10, 3) := by decide +kernel
theorem dX11_climber_94 : decode cX11_climber 94 = .ok (.getfield 162, 3) := by decide +kernel
theorem dX11_climber_97 : decode cX11_climber 97 = .ok (.iload_n 1, 1) := by decide +kernel
theorem dX11_climber_98 : decode cX11_climber 98 = .ok (.iaload, 1) := by decide +kernel
theorem dX11_climber_99 : decode cX11_climber 99 = .ok (.ireturn, 1) := by decide +kernel
theorem dX11_climber_100 : decode cX11_climber 100 = .ok (.aload_n 0, 1) := by decide +kernel
theorem dX11_climber_101 : decode cX11_climber 101 = .ok (.getfield 10, 3) := by decide +kernel
theorem dX11_climber_104 : decode cX11_climber 104 = .ok (.getfield 165, 3) := by decide +kernel
theorem dX11_climber_107 : decode cX11_climber 107 = .ok (.iload_n 1, 1) := by decide +kernel
theorem dX11_climber_108 : decode cX11_climber 108 = .ok (.iaload, 1) := by decide +kernel
theorem dX11_climber_109 : decode cX11_climber 109 = .ok (.ireturn, 1) := by decide +kernel
theorem dX11_climber_110 : decode cX11_climber 110 = .ok (.aload_n 0, 1) := by decide +kernel
theorem dX11_climber_111 : decode cX11_climber 111 = .ok (.getfield 19, 3) := by decide +kernel
theorem dX11_climber_114 : decode cX11_climber 114 = .ok (.aload_n 0, 1) := by decide +kernel
theorem dX11_climber_115 : decode cX11_climber 115 = .ok (.getfield 10, 3) := by decide +kernel
theorem dX11_climber_118 : decode cX11_climber 118 = .ok (.iload_n 1, 1) := by decide +kernel
theorem dX11_climber_119 : decode cX11_climber 119 = .ok (.invokevirtual 168, 3) := by decide +kernel
theorem dX11_climber_122 : decode cX11_climber 122 = .ok (.ireturn, 1) := by decide +kernel
theorem dX11_climber_123 : decode cX11_climber 123 = .ok (.new 145, 3) := by decide +kernel
theorem dX11_climber_126 : decode cX11_climber 126 = .ok (.dup, 1) := by decide +kernel
theorem dX11_climber_127 : decode cX11_climber 127 = .ok (.ldc 172, 2) := by decide +kernel
theorem dX11_climber_129 : decode cX11_climber 129 = .ok (.invokespecial 149, 3) := by decide +kernel
theorem dX11_climber_132 : decode cX11_climber 132 = .ok (.athrow, 1) := by decide +kernel
theorem dX11_sheet_0 : decode cX11_sheet 0 = .ok (.iload_n 1, 1) := by decide +kernel
theorem dX11_sheet_1 : decode cX11_sheet 1 = .ok (.iconst 0, 1) := by decide +kernel
theorem dX11_sheet_2 : decode cX11_sheet 2 = .ok (.iconst 3, 1) := by decide +kernel
theorem dX11_sheet_3 : decode cX11_sheet 3 = .ok (.invokestatic 174, 3) := by decide +kernel
theorem dX11_sheet_6 : decode cX11_sheet 6 = .ok (.ifCond .ne 9, 3) := by decide +kernel
theorem dX11_sheet_9 : decode cX11_sheet 9 = .ok (.iload_n 2, 1) := by decide +kernel
theorem dX11_sheet_10 : decode cX11_sheet 10 = .ok (.bipush 7, 2) := by decide +kernel
theorem dX11_sheet_12 : decode cX11_sheet 12 = .ok (.if_icmp .le 5, 3) := by decide +kernel
theorem dX11_sheet_15 : decode cX11_sheet 15 = .ok (.iconst (-1), 1) := by decide +kernel
theorem dX11_sheet_16 : decode cX11_sheet 16 = .ok (.ireturn, 1) := by decide +kernel
theorem dX11_sheet_17 : decode cX11_sheet 17 = .ok (.iload_n 1, 1) := by decide +kernel
theorem dX11_sheet_18 : decode cX11_sheet 18 = .ok (.iconst 3, 1) := by decide +kernel
theorem dX11_sheet_19 : decode cX11_sheet 19 = .ok (.if_icmp .ne 18, 3) := by decide +kernel
theorem dX11_sheet_22 : decode cX11_sheet 22 = .ok (.aload_n 0, 1) := by decide +kernel
theorem dX11_sheet_23 : decode cX11_sheet 23 = .ok (.getfield 10, 3) := by decide +kernel
theorem dX11_sheet_26 : decode cX11_sheet 26 = .ok (.iload_n 1, 1) := by decide +kernel
theorem dX11_sheet_27 : decode cX11_sheet 27 = .ok (.iconst 0, 1) := by decide +kernel
theorem dX11_sheet_28 : decode cX11_sheet 28 = .ok (.iload_n 3, 1) := by decide +kernel
theorem dX11_sheet_29 : decode cX11_sheet 29 = .ok (.iload 4, 2) := by decide +kernel
theorem dX11_sheet_31 : decode cX11_sheet 31 = .ok (.invokevirtual 178, 3) := by decide +kernel
theorem dX11_sheet_34 : decode cX11_sheet 34 = .ok (.bipush (-3), 2) := by decide +kernel
theorem dX11_sheet_36 : decode cX11_sheet 36 = .ok (.ireturn, 1) := by decide +kernel
theorem dX11_sheet_37 : decode cX11_sheet 37 = .ok (.iload_n 2, 1) := by decide +kernel
theorem dX11_sheet_38 : decode cX11_sheet 38 = .ok (.ifCond .ge 6, 3) := by decide +kernel
theorem dX11_sheet_41 : decode cX11_sheet 41 = .ok (.bipush (-2), 2) := by decide +kernel
theorem dX11_sheet_43 : decode cX11_sheet 43 = .ok (.ireturn, 1) := by decide +kernel
theorem dX11_sheet_44 : decode cX11_sheet 44 = .ok (.aload_n 0, 1) := by decide +kernel
theorem dX11_sheet_45 : decode cX11_sheet 45 = .ok (.getfield 10, 3) := by decide +kernel
theorem dX11_sheet_48 : decode cX11_sheet 48 = .ok (.iload_n 1, 1) := by decide +kernel
theorem dX11_sheet_49 : decode cX11_sheet 49 = .ok (.iload_n 2, 1) := by decide +kernel
theorem dX11_sheet_50 : decode cX11_sheet 50 = .ok (.iload_n 3, 1) := by decide +kernel
theorem dX11_sheet_51 : decode cX11_sheet 51 = .ok (.iload 4, 2) := by decide +kernel
theorem dX11_sheet_53 : decode cX11_sheet 53 = .ok (.invokevirtual 178, 3) := by decide +kernel
theorem dX11_sheet_56 : decode cX11_sheet 56 = .ok (.aload_n 0, 1) := by decide +kernel
theorem dX11_sheet_57 : decode cX11_sheet 57 = .ok (.getfield 10, 3) := by decide +kernel
theorem dX11_sheet_60 : decode cX11_sheet 60 = .ok (.aload_n 0, 1) := by decide +kernel
theorem dX11_sheet_61 : decode cX11_sheet 61 = .ok (.getfield 10, 3) := by decide +kernel
theorem dX11_sheet_64 : decode cX11_sheet 64 = .ok (.getfield 152, 3) := by decide +kernel
theorem dX11_sheet_67 : decode cX11_sheet 67 = .ok (.invokevirtual 182, 3) := by decide +kernel
theorem dX11_sheet_70 : decode cX11_sheet 70 = .ok (.ireturn, 1) := by decide +kernel
theorem dX11_hours_0 : decode cX11_hours 0 = .ok (.iload_n 1, 1) := by decide +kernel
theorem dX11_hours_1 : decode cX11_hours 1 = .ok (.iconst 0, 1) := by decide +kernel
theorem dX11_hours_2 : decode cX11_hours 2 = .ok (.bipush 60, 2) := by decide +kernel
theorem dX11_hours_4 : decode cX11_hours 4 = .ok (.invokestatic 174, 3) := by decide +kernel
theorem dX11_hours_7 : decode cX11_hours 7 = .ok (.ifCond .eq 5, 3) := by decide +kernel
theorem dX11_hours_10 : decode cX11_hours 10 = .ok (.iconst (-1), 1) := by decide +kernel
theorem dX11_hours_11 : decode cX11_hours 11 = .ok (.ireturn, 1) := by decide +kernel
theorem dX11_hours_12 : decode cX11_hours 12 = .ok (.aload_n 0, 1) := by decide +kernel
theorem dX11_hours_13 : decode cX11_hours 13 = .ok (.getfield 43, 3) := by decide +kernel
theorem dX11_hours_16 : decode cX11_hours 16 = .ok (.aload_n 0, 1) := by decide +kernel
theorem dX11_hours_17 : decode cX11_hours 17 = .ok (.getfield 10, 3) := by decide +kernel
theorem dX11_hours_20 : decode cX11_hours 20 = .ok (.invokevirtual 132, 3) := by decide +kernel
theorem dX11_hours_23 : decode cX11_hours 23 = .ok (.aload_n 0, 1) := by decide +kernel
theorem dX11_hours_24 : decode cX11_hours 24 = .ok (.getfield 10, 3) := by decide +kernel
theorem dX11_hours_27 : decode cX11_hours 27 = .ok (.aload_n 0, 1) := by decide +kernel
theorem dX11_hours_28 : decode cX11_hours 28 = .ok (.getfield 19, 3) := by decide +kernel
theorem dX11_hours_31 : decode cX11_hours 31 = .ok (.iload_n 1, 1) := by decide +kernel
theorem dX11_hours_32 : decode cX11_hours 32 = .ok (.invokevirtual 186, 3) := by decide +kernel
theorem dX11_hours_35 : decode cX11_hours 35 = .ok (.istore_n 2, 1) := by decide +kernel
theorem dX11_hours_36 : decode cX11_hours 36 = .ok (.iload_n 1, 1) := by decide +kernel
theorem dX11_hours_37 : decode cX11_hours 37 = .ok (.ifCond .le 10, 3) := by decide +kernel
theorem dX11_hours_40 : decode cX11_hours 40 = .ok (.aload_n 0, 1) := by decide +kernel
theorem dX11_hours_41 : decode cX11_hours 41 = .ok (.getfield 43, 3) := by decide +kernel
theorem dX11_hours_44 : decode cX11_hours 44 = .ok (.invokevirtual 190, 3) := by decide +kernel
theorem dX11_hours_47 : decode cX11_hours 47 = .ok (.aload_n 0, 1) := by decide +kernel
theorem dX11_hours_48 : decode cX11_hours 48 = .ok (.getfield 36, 3) := by decide +kernel
theorem dX11_hours_51 : decode cX11_hours 51 = .ok (.iload_n 2, 1) := by decide +kernel
theorem dX11_hours_52 : decode cX11_hours 52 = .ok (.i2l, 1) := by decide +kernel
theorem dX11_hours_53 : decode cX11_hours 53 = .ok (.aload_n 0, 1) := by decide +kernel
theorem dX11_hours_54 : decode cX11_hours 54 = .ok (.getfield 10, 3) := by decide +kernel
theorem dX11_hours_57 : decode cX11_hours 57 = .ok (.invokevirtual 193, 3) := by decide +kernel
theorem dX11_hours_60 : decode cX11_hours 60 = .ok (.i2l, 1) := by decide +kernel
theorem dX11_hours_61 : decode cX11_hours 61 = .ok (.invokevirtual 197, 3) := by decide +kernel
theorem dX11_hours_64 : decode cX11_hours 64 = .ok (.aload_n 0, 1) := by decide +kernel
theorem dX11_hours_65 : decode cX11_hours 65 = .ok (.getfield 10, 3) := by decide +kernel
theorem dX11_hours_68 : decode cX11_hours 68 = .ok (.getfield 201, 3) := by decide +kernel
theorem dX11_hours_71 : decode cX11_hours 71 = .ok (.ireturn, 1) := by decide +kernel
theorem dX11_starts_0 : decode cX11_starts 0 = .ok (.aload_n 0, 1) := by decide +kernel
theorem dX11_starts_1 : decode cX11_starts 1 = .ok (.getfield 43, 3) := by decide +kernel
theorem dX11_starts_4 : decode cX11_starts 4 = .ok (.aload_n 0, 1) := by decide +kernel
theorem dX11_starts_5 : decode cX11_starts 5 = .ok (.getfield 10, 3) := by decide +kernel
theorem dX11_starts_8 : decode cX11_starts 8 = .ok (.invokevirtual 132, 3) := by decide +kernel
theorem dX11_starts_11 : decode cX11_starts 11 = .ok (.aload_n 0, 1) := by decide +kernel
theorem dX11_starts_12 : decode cX11_starts 12 = .ok (.aload_n 0, 1) := by decide +kernel
theorem dX11_starts_13 : decode cX11_starts 13 = .ok (.getfield 10, 3) := by decide +kernel
theorem dX11_starts_16 : decode cX11_starts 16 = .ok (.iload_n 1, 1) := by decide +kernel
theorem dX11_starts_17 : decode cX11_starts 17 = .ok (.invokevirtual 204, 3) := by decide +kernel
theorem dX11_starts_20 : decode cX11_starts 20 = .ok (.invokevirtual 139, 3) := by decide +kernel
theorem dX11_starts_23 : decode cX11_starts 23 = .ok (.ireturn, 1) := by decide +kernel
theorem dX11_backs_0 : decode cX11_backs 0 = .ok (.aload_n 0, 1) := by decide +kernel
theorem dX11_backs_1 : decode cX11_backs 1 = .ok (.getfield 43, 3) := by decide +kernel
theorem dX11_backs_4 : decode cX11_backs 4 = .ok (.aload_n 0, 1) := by decide +kernel
theorem dX11_backs_5 : decode cX11_backs 5 = .ok (.getfield 10, 3) := by decide +kernel
theorem dX11_backs_8 : decode cX11_backs 8 = .ok (.invokevirtual 132, 3) := by decide +kernel
theorem dX11_backs_11 : decode cX11_backs 11 = .ok (.aload_n 0, 1) := by decide +kernel
theorem dX11_backs_12 : decode cX11_backs 12 = .ok (.aload_n 0, 1) := by decide +kernel
theorem dX11_backs_13 : decode cX11_backs 13 = .ok (.getfield 10, 3) := by decide +kernel
theorem dX11_backs_16 : decode cX11_backs 16 = .ok (.iload_n 1, 1) := by decide +kernel
theorem dX11_backs_17 : decode cX11_backs 17 = .ok (.invokevirtual 207, 3) := by decide +kernel
theorem dX11_backs_20 : decode cX11_backs 20 = .ok (.invokevirtual 139, 3) := by decide +kernel
theorem dX11_backs_23 : decode cX11_backs 23 = .ok (.ireturn, 1) := by decide +kernel
theorem dX11_waits_0 : decode cX11_waits 0 = .ok (.aload_n 0, 1) := by decide +kernel
theorem dX11_waits_1 : decode cX11_waits 1 = .ok (.getfield 43, 3) := by decide +kernel
theorem dX11_waits_4 : decode cX11_waits 4 = .ok (.aload_n 0, 1) := by decide +kernel
theorem dX11_waits_5 : decode cX11_waits 5 = .ok (.getfield 10, 3) := by decide +kernel
theorem dX11_waits_8 : decode cX11_waits 8 = .ok (.invokevirtual 132, 3) := by decide +kernel
theorem dX11_waits_11 : decode cX11_waits 11 = .ok (.aload_n 0, 1) := by decide +kernel
theorem dX11_waits_12 : decode cX11_waits 12 = .ok (.aload_n 0, 1) := by decide +kernel
theorem dX11_waits_13 : decode cX11_waits 13 = .ok (.getfield 10, 3) := by decide +kernel
theorem dX11_waits_16 : decode cX11_waits 16 = .ok (.iload_n 1, 1) := by decide +kernel
theorem dX11_waits_17 : decode cX11_waits 17 = .ok (.iload_n 2, 1) := by decide +kernel
theorem dX11_waits_18 : decode cX11_waits 18 = .ok (.invokevirtual 210, 3) := by decide +kernel
theorem dX11_waits_21 : decode cX11_waits 21 = .ok (.invokevirtual 139, 3) := by decide +kernel
theorem dX11_waits_24 : decode cX11_waits 24 = .ok (.ireturn, 1) := by decide +kernel
theorem dX11_slips_0 : decode cX11_slips 0 = .ok (.aload_n 0, 1) := by decide +kernel
theorem dX11_slips_1 : decode cX11_slips 1 = .ok (.getfield 43, 3) := by decide +kernel
theorem dX11_slips_4 : decode cX11_slips 4 = .ok (.aload_n 0, 1) := by decide +kernel
theorem dX11_slips_5 : decode cX11_slips 5 = .ok (.getfield 10, 3) := by decide +kernel
theorem dX11_slips_8 : decode cX11_slips 8 = .ok (.invokevirtual 132, 3) := by decide +kernel
theorem dX11_slips_11 : decode cX11_slips 11 = .ok (.aload_n 0, 1) := by decide +kernel
theorem dX11_slips_12 : decode cX11_slips 12 = .ok (.aload_n 0, 1) := by decide +kernel
theorem dX11_slips_13 : decode cX11_slips 13 = .ok (.getfield 10, 3) := by decide +kernel
theorem dX11_slips_16 : decode cX11_slips 16 = .ok (.iload_n 1, 1) := by decide +kernel
theorem dX11_slips_17 : decode cX11_slips 17 = .ok (.iload_n 2, 1) := by decide +kernel
theorem dX11_slips_18 : decode cX11_slips 18 = .ok (.invokevirtual 214, 3) := by decide +kernel
theorem dX11_slips_21 : decode cX11_slips 21 = .ok (.invokevirtual 139, 3) := by decide +kernel
theorem dX11_slips_24 : decode cX11_slips 24 = .ok (.ireturn, 1) := by decide +kernel
theorem dX11_day_0 : decode cX11_day 0 = .ok (.aload_n 0, 1) := by decide +kernel
theorem dX11_day_1 : decode cX11_day 1 = .ok (.getfield 29, 3) := by decide +kernel
theorem dX11_day_4 : decode cX11_day 4 = .ok (.invokevirtual 217, 3) := by decide +kernel
theorem dX11_day_7 : decode cX11_day 7 = .ok (.istore_n 1, 1) := by decide +kernel
theorem dX11_day_8 : decode cX11_day 8 = .ok (.iload_n 1, 1) := by decide +kernel
theorem dX11_day_9 : decode cX11_day 9 = .ok (.iconst (-1), 1) := by decide +kernel
theorem dX11_day_10 : decode cX11_day 10 = .ok (.if_icmp .eq 14, 3) := by decide +kernel
theorem dX11_day_13 : decode cX11_day 13 = .ok (.aload_n 0, 1) := by decide +kernel
theorem dX11_day_14 : decode cX11_day 14 = .ok (.getfield 29, 3) := by decide +kernel
theorem dX11_day_17 : decode cX11_day 17 = .ok (.invokevirtual 121, 3) := by decide +kernel
theorem dX11_day_20 : decode cX11_day 20 = .ok (.iconst (-1), 1) := by decide +kernel
theorem dX11_day_21 : decode cX11_day 21 = .ok (.iload_n 1, 1) := by decide +kernel
theorem dX11_day_22 : decode cX11_day 22 = .ok (.isub, 1) := by decide +kernel
theorem dX11_day_23 : decode cX11_day 23 = .ok (.ireturn, 1) := by decide +kernel
theorem dX11_day_24 : decode cX11_day 24 = .ok (.aload_n 0, 1) := by decide +kernel
theorem dX11_day_25 : decode cX11_day 25 = .ok (.getfield 43, 3) := by decide +kernel
theorem dX11_day_28 : decode cX11_day 28 = .ok (.aload_n 0, 1) := by decide +kernel
theorem dX11_day_29 : decode cX11_day 29 = .ok (.getfield 10, 3) := by decide +kernel
theorem dX11_day_32 : decode cX11_day 32 = .ok (.invokevirtual 132, 3) := by decide +kernel
theorem dX11_day_35 : decode cX11_day 35 = .ok (.iconst 0, 1) := by decide +kernel
theorem dX11_day_36 : decode cX11_day 36 = .ok (.istore_n 2, 1) := by decide +kernel
theorem dX11_day_37 : decode cX11_day 37 = .ok (.iconst 0, 1) := by decide +kernel
theorem dX11_day_38 : decode cX11_day 38 = .ok (.istore_n 3, 1) := by decide +kernel
theorem dX11_day_39 : decode cX11_day 39 = .ok (.iconst 0, 1) := by decide +kernel
theorem dX11_day_40 : decode cX11_day 40 = .ok (.istore 4, 2) := by decide +kernel
theorem dX11_day_42 : decode cX11_day 42 = .ok (.iload 4, 2) := by decide +kernel
theorem dX11_day_44 : decode cX11_day 44 = .ok (.aload_n 0, 1) := by decide +kernel
theorem dX11_day_45 : decode cX11_day 45 = .ok (.getfield 29, 3) := by decide +kernel
theorem dX11_day_48 : decode cX11_day 48 = .ok (.getfield 110, 3) := by decide +kernel
theorem dX11_day_51 : decode cX11_day 51 = .ok (.if_icmp .ge 54, 3) := by decide +kernel
theorem dX11_day_54 : decode cX11_day 54 = .ok (.iload_n 3, 1) := by decide +kernel
theorem dX11_day_55 : decode cX11_day 55 = .ok (.ifCond .ne 50, 3) := by decide +kernel
theorem dX11_day_58 : decode cX11_day 58 = .ok (.aload_n 0, 1) := by decide +kernel
theorem dX11_day_59 : decode cX11_day 59 = .ok (.iload 4, 2) := by decide +kernel
theorem dX11_day_61 : decode cX11_day 61 = .ok (.invokevirtual 220, 3) := by decide +kernel
theorem dX11_day_64 : decode cX11_day 64 = .ok (.ifCond .ge 7, 3) := by decide +kernel
theorem dX11_day_67 : decode cX11_day 67 = .ok (.iconst 1, 1) := by decide +kernel
theorem dX11_day_68 : decode cX11_day 68 = .ok (.goto 4, 3) := by decide +kernel
theorem dX11_day_71 : decode cX11_day 71 = .ok (.iconst 0, 1) := by decide +kernel
theorem dX11_day_72 : decode cX11_day 72 = .ok (.istore_n 3, 1) := by decide +kernel
theorem dX11_day_73 : decode cX11_day 73 = .ok (.iload_n 2, 1) := by decide +kernel
theorem dX11_day_74 : decode cX11_day 74 = .ok (.iload_n 3, 1) := by decide +kernel
theorem dX11_day_75 : decode cX11_day 75 = .ok (.ifCond .eq 7, 3) := by decide +kernel
theorem dX11_day_78 : decode cX11_day 78 = .ok (.iconst 0, 1) := by decide +kernel
theorem dX11_day_79 : decode cX11_day 79 = .ok (.goto 4, 3) := by decide +kernel
theorem dX11_day_82 : decode cX11_day 82 = .ok (.iconst 1, 1) := by decide +kernel
theorem dX11_day_83 : decode cX11_day 83 = .ok (.iadd, 1) := by decide +kernel
theorem dX11_day_84 : decode cX11_day 84 = .ok (.istore_n 2, 1) := by decide +kernel
theorem dX11_day_85 : decode cX11_day 85 = .ok (.iload 4, 2) := by decide +kernel
theorem dX11_day_87 : decode cX11_day 87 = .ok (.aload_n 0, 1) := by decide +kernel
theorem dX11_day_88 : decode cX11_day 88 = .ok (.getfield 29, 3) := by decide +kernel
theorem dX11_day_91 : decode cX11_day 91 = .ok (.iload 4, 2) := by decide +kernel
theorem dX11_day_93 : decode cX11_day 93 = .ok (.invokevirtual 223, 3) := by decide +kernel
theorem dX11_day_96 : decode cX11_day 96 = .ok (.invokestatic 226, 3) := by decide +kernel
theorem dX11_day_99 : decode cX11_day 99 = .ok (.iadd, 1) := by decide +kernel
theorem dX11_day_100 : decode cX11_day 100 = .ok (.istore 4, 2) := by decide +kernel
theorem dX11_day_102 : decode cX11_day 102 = .ok (.goto (-60), 3) := by decide +kernel
theorem dX11_day_105 : decode cX11_day 105 = .ok (.aload_n 0, 1) := by decide +kernel
theorem dX11_day_106 : decode cX11_day 106 = .ok (.getfield 29, 3) := by decide +kernel
theorem dX11_day_109 : decode cX11_day 109 = .ok (.invokevirtual 121, 3) := by decide +kernel
theorem dX11_day_112 : decode cX11_day 112 = .ok (.iload_n 2, 1) := by decide +kernel
theorem dX11_day_113 : decode cX11_day 113 = .ok (.ifCond .le 10, 3) := by decide +kernel
theorem dX11_day_116 : decode cX11_day 116 = .ok (.aload_n 0, 1) := by decide +kernel
theorem dX11_day_117 : decode cX11_day 117 = .ok (.getfield 43, 3) := by decide +kernel
theorem dX11_day_120 : decode cX11_day 120 = .ok (.invokevirtual 190, 3) := by decide +kernel
theorem dX11_day_123 : decode cX11_day 123 = .ok (.aload_n 0, 1) := by decide +kernel
theorem dX11_day_124 : decode cX11_day 124 = .ok (.getfield 36, 3) := by decide +kernel
theorem dX11_day_127 : decode cX11_day 127 = .ok (.iload_n 3, 1) := by decide +kernel
theorem dX11_day_128 : decode cX11_day 128 = .ok (.ifCond .eq 7, 3) := by decide +kernel
theorem dX11_day_131 : decode cX11_day 131 = .ok (.lconst 1, 1) := by decide +kernel
theorem dX11_day_132 : decode cX11_day 132 = .ok (.goto 4, 3) := by decide +kernel
theorem dX11_day_135 : decode cX11_day 135 = .ok (.lconst 0, 1) := by decide +kernel
theorem dX11_day_136 : decode cX11_day 136 = .ok (.aload_n 0, 1) := by decide +kernel
theorem dX11_day_137 : decode cX11_day 137 = .ok (.getfield 10, 3) := by decide +kernel
theorem dX11_day_140 : decode cX11_day 140 = .ok (.getfield 229, 3) := by decide +kernel
theorem dX11_day_143 : decode cX11_day 143 = .ok (.i2l, 1) := by decide +kernel
theorem dX11_day_144 : decode cX11_day 144 = .ok (.invokevirtual 197, 3) := by decide +kernel
theorem dX11_day_147 : decode cX11_day 147 = .ok (.iload_n 2, 1) := by decide +kernel
theorem dX11_day_148 : decode cX11_day 148 = .ok (.ireturn, 1) := by decide +kernel
theorem dX11_undo_0 : decode cX11_undo 0 = .ok (.aload_n 0, 1) := by decide +kernel
theorem dX11_undo_1 : decode cX11_undo 1 = .ok (.getfield 43, 3) := by decide +kernel
theorem dX11_undo_4 : decode cX11_undo 4 = .ok (.aload_n 0, 1) := by decide +kernel
theorem dX11_undo_5 : decode cX11_undo 5 = .ok (.getfield 10, 3) := by decide +kernel
theorem dX11_undo_8 : decode cX11_undo 8 = .ok (.invokevirtual 232, 3) := by decide +kernel
theorem dX11_undo_11 : decode cX11_undo 11 = .ok (.ireturn, 1) := by decide +kernel
theorem dX11_noteIfDone_0 : decode cX11_noteIfDone 0 = .ok (.iload_n 1, 1) := by decide +kernel
theorem dX11_noteIfDone_1 : decode cX11_noteIfDone 1 = .ok (.ifCond .lt 10, 3) := by decide +kernel
theorem dX11_noteIfDone_4 : decode cX11_noteIfDone 4 = .ok (.aload_n 0, 1) := by decide +kernel
theorem dX11_noteIfDone_5 : decode cX11_noteIfDone 5 = .ok (.getfield 43, 3) := by decide +kernel
theorem dX11_noteIfDone_8 : decode cX11_noteIfDone 8 = .ok (.invokevirtual 190, 3) := by decide +kernel
theorem dX11_noteIfDone_11 : decode cX11_noteIfDone 11 = .ok (.iload_n 1, 1) := by decide +kernel
theorem dX11_noteIfDone_12 : decode cX11_noteIfDone 12 = .ok (.ireturn, 1) := by decide +kernel
theorem dX11_actAt_0 : decode cX11_actAt 0 = .ok (.aload_n 0, 1) := by decide +kernel
theorem dX11_actAt_1 : decode cX11_actAt 1 = .ok (.getfield 29, 3) := by decide +kernel
theorem dX11_actAt_4 : decode cX11_actAt 4 = .ok (.iload_n 1, 1) := by decide +kernel
theorem dX11_actAt_5 : decode cX11_actAt 5 = .ok (.iconst 1, 1) := by decide +kernel
theorem dX11_actAt_6 : decode cX11_actAt 6 = .ok (.iadd, 1) := by decide +kernel
theorem dX11_actAt_7 : decode cX11_actAt 7 = .ok (.invokevirtual 111, 3) := by decide +kernel
theorem dX11_actAt_10 : decode cX11_actAt 10 = .ok (.istore_n 2, 1) := by decide +kernel
theorem dX11_actAt_11 : decode cX11_actAt 11 = .ok (.aload_n 0, 1) := by decide +kernel
theorem dX11_actAt_12 : decode cX11_actAt 12 = .ok (.getfield 29, 3) := by decide +kernel
theorem dX11_actAt_15 : decode cX11_actAt 15 = .ok (.iload_n 1, 1) := by decide +kernel
theorem dX11_actAt_16 : decode cX11_actAt 16 = .ok (.invokevirtual 223, 3) := by decide +kernel
theorem dX11_actAt_19 : decode cX11_actAt 19 = .ok (.lookupswitch 135 #[(98, 79), (102, 107), (110, 57), (115, 70), (116, 126), (119, 88)], 57) := by decide +kernel
theorem dX11_actAt_76 : decode cX11_actAt 76 = .ok (.aload_n 0, 1) := by decide +kernel
theorem dX11_actAt_77 : decode cX11_actAt 77 = .ok (.getfield 10, 3) := by decide +kernel
theorem dX11_actAt_80 : decode cX11_actAt 80 = .ok (.aload_n 0, 1) := by decide +kernel
theorem dX11_actAt_81 : decode cX11_actAt 81 = .ok (.getfield 19, 3) := by decide +kernel
theorem dX11_actAt_84 : decode cX11_actAt 84 = .ok (.iload_n 2, 1) := by decide +kernel
theorem dX11_actAt_85 : decode cX11_actAt 85 = .ok (.invokevirtual 186, 3) := by decide +kernel
theorem dX11_actAt_88 : decode cX11_actAt 88 = .ok (.ireturn, 1) := by decide +kernel
theorem dX11_actAt_89 : decode cX11_actAt 89 = .ok (.aload_n 0, 1) := by decide +kernel
theorem dX11_actAt_90 : decode cX11_actAt 90 = .ok (.getfield 10, 3) := by decide +kernel
theorem dX11_actAt_93 : decode cX11_actAt 93 = .ok (.iload_n 2, 1) := by decide +kernel
theorem dX11_actAt_94 : decode cX11_actAt 94 = .ok (.invokevirtual 204, 3) := by decide +kernel
theorem dX11_actAt_97 : decode cX11_actAt 97 = .ok (.ireturn, 1) := by decide +kernel
theorem dX11_actAt_98 : decode cX11_actAt 98 = .ok (.aload_n 0, 1) := by decide +kernel
theorem dX11_actAt_99 : decode cX11_actAt 99 = .ok (.getfield 10, 3) := by decide +kernel
theorem dX11_actAt_102 : decode cX11_actAt 102 = .ok (.iload_n 2, 1) := by decide +kernel
theorem dX11_actAt_103 : decode cX11_actAt 103 = .ok (.invokevirtual 207, 3) := by decide +kernel
theorem dX11_actAt_106 : decode cX11_actAt 106 = .ok (.ireturn, 1) := by decide +kernel
theorem dX11_actAt_107 : decode cX11_actAt 107 = .ok (.aload_n 0, 1) := by decide +kernel
theorem dX11_actAt_108 : decode cX11_actAt 108 = .ok (.getfield 10, 3) := by decide +kernel
theorem dX11_actAt_111 : decode cX11_actAt 111 = .ok (.iload_n 2, 1) := by decide +kernel
theorem dX11_actAt_112 : decode cX11_actAt 112 = .ok (.aload_n 0, 1) := by decide +kernel
theorem dX11_actAt_113 : decode cX11_actAt 113 = .ok (.getfield 29, 3) := by decide +kernel
theorem dX11_actAt_116 : decode cX11_actAt 116 = .ok (.iload_n 1, 1) := by decide +kernel
theorem dX11_actAt_117 : decode cX11_actAt 117 = .ok (.iconst 2, 1) := by decide +kernel
theorem dX11_actAt_118 : decode cX11_actAt 118 = .ok (.iadd, 1) := by decide +kernel
theorem dX11_actAt_119 : decode cX11_actAt 119 = .ok (.invokevirtual 111, 3) := by decide +kernel
theorem dX11_actAt_122 : decode cX11_actAt 122 = .ok (.invokevirtual 210, 3) := by decide +kernel
theorem dX11_actAt_125 : decode cX11_actAt 125 = .ok (.ireturn, 1) := by decide +kernel
theorem dX11_actAt_126 : decode cX11_actAt 126 = .ok (.aload_n 0, 1) := by decide +kernel
theorem dX11_actAt_127 : decode cX11_actAt 127 = .ok (.getfield 10, 3) := by decide +kernel
theorem dX11_actAt_130 : decode cX11_actAt 130 = .ok (.iload_n 2, 1) := by decide +kernel
theorem dX11_actAt_131 : decode cX11_actAt 131 = .ok (.aload_n 0, 1) := by decide +kernel
theorem dX11_actAt_132 : decode cX11_actAt 132 = .ok (.getfield 29, 3) := by decide +kernel
theorem dX11_actAt_135 : decode cX11_actAt 135 = .ok (.iload_n 1, 1) := by decide +kernel
theorem dX11_actAt_136 : decode cX11_actAt 136 = .ok (.iconst 2, 1) := by decide +kernel
theorem dX11_actAt_137 : decode cX11_actAt 137 = .ok (.iadd, 1) := by decide +kernel
theorem dX11_actAt_138 : decode cX11_actAt 138 = .ok (.invokevirtual 111, 3) := by decide +kernel
theorem dX11_actAt_141 : decode cX11_actAt 141 = .ok (.invokevirtual 214, 3) := by decide +kernel
theorem dX11_actAt_144 : decode cX11_actAt 144 = .ok (.ireturn, 1) := by decide +kernel
theorem dX11_actAt_145 : decode cX11_actAt 145 = .ok (.aload_n 0, 1) := by decide +kernel
theorem dX11_actAt_146 : decode cX11_actAt 146 = .ok (.getfield 10, 3) := by decide +kernel
theorem dX11_actAt_149 : decode cX11_actAt 149 = .ok (.iload_n 2, 1) := by decide +kernel
theorem dX11_actAt_150 : decode cX11_actAt 150 = .ok (.invokevirtual 136, 3) := by decide +kernel
theorem dX11_actAt_153 : decode cX11_actAt 153 = .ok (.ireturn, 1) := by decide +kernel
theorem dX11_actAt_154 : decode cX11_actAt 154 = .ok (.iconst (-1), 1) := by decide +kernel
theorem dX11_actAt_155 : decode cX11_actAt 155 = .ok (.ireturn, 1) := by decide +kernel
theorem dX11_later_0 : decode cX11_later 0 = .ok (.iload_n 1, 1) := by decide +kernel
theorem dX11_later_1 : decode cX11_later 1 = .ok (.iconst 0, 1) := by decide +kernel
theorem dX11_later_2 : decode cX11_later 2 = .ok (.bipush 99, 2) := by decide +kernel
theorem dX11_later_4 : decode cX11_later 4 = .ok (.invokestatic 174, 3) := by decide +kernel
theorem dX11_later_7 : decode cX11_later 7 = .ok (.ifCond .eq 7, 3) := by decide +kernel
theorem dX11_later_10 : decode cX11_later 10 = .ok (.iconst (-1), 1) := by decide +kernel
theorem dX11_later_11 : decode cX11_later 11 = .ok (.goto 11, 3) := by decide +kernel
theorem dX11_later_14 : decode cX11_later 14 = .ok (.aload_n 0, 1) := by decide +kernel
theorem dX11_later_15 : decode cX11_later 15 = .ok (.getfield 52, 3) := by decide +kernel
theorem dX11_later_18 : decode cX11_later 18 = .ok (.iload_n 1, 1) := by decide +kernel
theorem dX11_later_19 : decode cX11_later 19 = .ok (.invokevirtual 236, 3) := by decide +kernel
theorem dX11_later_22 : decode cX11_later 22 = .ok (.ireturn, 1) := by decide +kernel
theorem dX11_when_0 : decode cX11_when 0 = .ok (.aload_n 0, 1) := by decide +kernel
theorem dX11_when_1 : decode cX11_when 1 = .ok (.getfield 10, 3) := by decide +kernel
theorem dX11_when_4 : decode cX11_when 4 = .ok (.iload_n 1, 1) := by decide +kernel
theorem dX11_when_5 : decode cX11_when 5 = .ok (.invokevirtual 142, 3) := by decide +kernel
theorem dX11_when_8 : decode cX11_when 8 = .ok (.ifCond .eq 14, 3) := by decide +kernel
theorem dX11_when_11 : decode cX11_when 11 = .ok (.aload_n 0, 1) := by decide +kernel
theorem dX11_when_12 : decode cX11_when 12 = .ok (.getfield 52, 3) := by decide +kernel
theorem dX11_when_15 : decode cX11_when 15 = .ok (.iload_n 1, 1) := by decide +kernel
theorem dX11_when_16 : decode cX11_when 16 = .ok (.invokevirtual 239, 3) := by decide +kernel
theorem dX11_when_19 : decode cX11_when 19 = .ok (.goto 4, 3) := by decide +kernel
theorem dX11_when_22 : decode cX11_when 22 = .ok (.iconst (-1), 1) := by decide +kernel
theorem dX11_when_23 : decode cX11_when 23 = .ok (.ireturn, 1) := by decide +kernel
theorem dX11_shares_0 : decode cX11_shares 0 = .ok (.iload_n 1, 1) := by decide +kernel
theorem dX11_shares_1 : decode cX11_shares 1 = .ok (.iconst 1, 1) := by decide +kernel
theorem dX11_shares_2 : decode cX11_shares 2 = .ok (.bipush 99, 2) := by decide +kernel
theorem dX11_shares_4 : decode cX11_shares 4 = .ok (.invokestatic 174, 3) := by decide +kernel
theorem dX11_shares_7 : decode cX11_shares 7 = .ok (.ifCond .eq 7, 3) := by decide +kernel
theorem dX11_shares_10 : decode cX11_shares 10 = .ok (.iconst (-1), 1) := by decide +kernel
theorem dX11_shares_11 : decode cX11_shares 11 = .ok (.goto 11, 3) := by decide +kernel
theorem dX11_shares_14 : decode cX11_shares 14 = .ok (.aload_n 0, 1) := by decide +kernel
theorem dX11_shares_15 : decode cX11_shares 15 = .ok (.getfield 52, 3) := by decide +kernel
theorem dX11_shares_18 : decode cX11_shares 18 = .ok (.iload_n 1, 1) := by decide +kernel
theorem dX11_shares_19 : decode cX11_shares 19 = .ok (.invokevirtual 242, 3) := by decide +kernel
theorem dX11_shares_22 : decode cX11_shares 22 = .ok (.ireturn, 1) := by decide +kernel
theorem dX11_order_0 : decode cX11_order 0 = .ok (.iload_n 1, 1) := by decide +kernel
theorem dX11_order_1 : decode cX11_order 1 = .ok (.iconst 1, 1) := by decide +kernel
theorem dX11_order_2 : decode cX11_order 2 = .ok (.bipush 99, 2) := by decide +kernel
theorem dX11_order_4 : decode cX11_order 4 = .ok (.invokestatic 174, 3) := by decide +kernel
theorem dX11_order_7 : decode cX11_order 7 = .ok (.ifCond .eq 7, 3) := by decide +kernel
theorem dX11_order_10 : decode cX11_order 10 = .ok (.iconst (-1), 1) := by decide +kernel
theorem dX11_order_11 : decode cX11_order 11 = .ok (.goto 11, 3) := by decide +kernel
theorem dX11_order_14 : decode cX11_order 14 = .ok (.aload_n 0, 1) := by decide +kernel
theorem dX11_order_15 : decode cX11_order 15 = .ok (.getfield 52, 3) := by decide +kernel
theorem dX11_order_18 : decode cX11_order 18 = .ok (.iload_n 1, 1) := by decide +kernel
theorem dX11_order_19 : decode cX11_order 19 = .ok (.invokevirtual 245, 3) := by decide +kernel
theorem dX11_order_22 : decode cX11_order 22 = .ok (.ireturn, 1) := by decide +kernel
theorem dX11_empty_0 : decode cX11_empty 0 = .ok (.aload_n 0, 1) := by decide +kernel
theorem dX11_empty_1 : decode cX11_empty 1 = .ok (.getfield 52, 3) := by decide +kernel
theorem dX11_empty_4 : decode cX11_empty 4 = .ok (.invokevirtual 248, 3) := by decide +kernel
theorem dX11_empty_7 : decode cX11_empty 7 = .ok (.ireturn, 1) := by decide +kernel
theorem dX11_high_0 : decode cX11_high 0 = .ok (.aload_n 0, 1) := by decide +kernel
theorem dX11_high_1 : decode cX11_high 1 = .ok (.getfield 10, 3) := by decide +kernel
theorem dX11_high_4 : decode cX11_high 4 = .ok (.iload_n 1, 1) := by decide +kernel
theorem dX11_high_5 : decode cX11_high 5 = .ok (.invokevirtual 142, 3) := by decide +kernel
theorem dX11_high_8 : decode cX11_high 8 = .ok (.ifCond .eq 13, 3) := by decide +kernel
theorem dX11_high_11 : decode cX11_high 11 = .ok (.iload_n 2, 1) := by decide +kernel
theorem dX11_high_12 : decode cX11_high 12 = .ok (.iconst 0, 1) := by decide +kernel
theorem dX11_high_13 : decode cX11_high 13 = .ok (.bipush 99, 2) := by decide +kernel
theorem dX11_high_15 : decode cX11_high 15 = .ok (.invokestatic 174, 3) := by decide +kernel
theorem dX11_high_18 : decode cX11_high 18 = .ok (.ifCond .eq 5, 3) := by decide +kernel
theorem dX11_high_21 : decode cX11_high 21 = .ok (.iconst (-1), 1) := by decide +kernel
theorem dX11_high_22 : decode cX11_high 22 = .ok (.ireturn, 1) := by decide +kernel
theorem dX11_high_23 : decode cX11_high 23 = .ok (.aload_n 0, 1) := by decide +kernel
theorem dX11_high_24 : decode cX11_high 24 = .ok (.getfield 52, 3) := by decide +kernel
theorem dX11_high_27 : decode cX11_high 27 = .ok (.iload_n 1, 1) := by decide +kernel
theorem dX11_high_28 : decode cX11_high 28 = .ok (.iload_n 2, 1) := by decide +kernel
theorem dX11_high_29 : decode cX11_high 29 = .ok (.invokevirtual 251, 3) := by decide +kernel
theorem dX11_high_32 : decode cX11_high 32 = .ok (.ireturn, 1) := by decide +kernel
theorem dX11_comes_0 : decode cX11_comes 0 = .ok (.aload_n 0, 1) := by decide +kernel
theorem dX11_comes_1 : decode cX11_comes 1 = .ok (.getfield 10, 3) := by decide +kernel
theorem dX11_comes_4 : decode cX11_comes 4 = .ok (.iload_n 1, 1) := by decide +kernel
theorem dX11_comes_5 : decode cX11_comes 5 = .ok (.invokevirtual 142, 3) := by decide +kernel
theorem dX11_comes_8 : decode cX11_comes 8 = .ok (.ifCond .eq 14, 3) := by decide +kernel
theorem dX11_comes_11 : decode cX11_comes 11 = .ok (.aload_n 0, 1) := by decide +kernel
theorem dX11_comes_12 : decode cX11_comes 12 = .ok (.getfield 52, 3) := by decide +kernel
theorem dX11_comes_15 : decode cX11_comes 15 = .ok (.iload_n 1, 1) := by decide +kernel
theorem dX11_comes_16 : decode cX11_comes 16 = .ok (.invokevirtual 254, 3) := by decide +kernel
theorem dX11_comes_19 : decode cX11_comes 19 = .ok (.goto 4, 3) := by decide +kernel
theorem dX11_comes_22 : decode cX11_comes 22 = .ok (.iconst (-1), 1) := by decide +kernel
theorem dX11_comes_23 : decode cX11_comes 23 = .ok (.ireturn, 1) := by decide +kernel
theorem dX11_crowd_0 : decode cX11_crowd 0 = .ok (.iload_n 1, 1) := by decide +kernel
theorem dX11_crowd_1 : decode cX11_crowd 1 = .ok (.iconst 0, 1) := by decide +kernel
theorem dX11_crowd_2 : decode cX11_crowd 2 = .ok (.bipush 99, 2) := by decide +kernel
theorem dX11_crowd_4 : decode cX11_crowd 4 = .ok (.invokestatic 174, 3) := by decide +kernel
theorem dX11_crowd_7 : decode cX11_crowd 7 = .ok (.ifCond .eq 7, 3) := by decide +kernel
theorem dX11_crowd_10 : decode cX11_crowd 10 = .ok (.iconst (-1), 1) := by decide +kernel
theorem dX11_crowd_11 : decode cX11_crowd 11 = .ok (.goto 11, 3) := by decide +kernel
theorem dX11_crowd_14 : decode cX11_crowd 14 = .ok (.aload_n 0, 1) := by decide +kernel
theorem dX11_crowd_15 : decode cX11_crowd 15 = .ok (.getfield 52, 3) := by decide +kernel
theorem dX11_crowd_18 : decode cX11_crowd 18 = .ok (.iload_n 1, 1) := by decide +kernel
theorem dX11_crowd_19 : decode cX11_crowd 19 = .ok (.invokevirtual 257, 3) := by decide +kernel
theorem dX11_crowd_22 : decode cX11_crowd 22 = .ok (.ireturn, 1) := by decide +kernel
theorem dX11_changes_0 : decode cX11_changes 0 = .ok (.iload_n 1, 1) := by decide +kernel
theorem dX11_changes_1 : decode cX11_changes 1 = .ok (.iconst 1, 1) := by decide +kernel
theorem dX11_changes_2 : decode cX11_changes 2 = .ok (.bipush 99, 2) := by decide +kernel
theorem dX11_changes_4 : decode cX11_changes 4 = .ok (.invokestatic 174, 3) := by decide +kernel
theorem dX11_changes_7 : decode cX11_changes 7 = .ok (.ifCond .eq 7, 3) := by decide +kernel
theorem dX11_changes_10 : decode cX11_changes 10 = .ok (.iconst (-1), 1) := by decide +kernel
theorem dX11_changes_11 : decode cX11_changes 11 = .ok (.goto 11, 3) := by decide +kernel
theorem dX11_changes_14 : decode cX11_changes 14 = .ok (.aload_n 0, 1) := by decide +kernel
theorem dX11_changes_15 : decode cX11_changes 15 = .ok (.getfield 52, 3) := by decide +kernel
theorem dX11_changes_18 : decode cX11_changes 18 = .ok (.iload_n 1, 1) := by decide +kernel
theorem dX11_changes_19 : decode cX11_changes 19 = .ok (.invokevirtual 260, 3) := by decide +kernel
theorem dX11_changes_22 : decode cX11_changes 22 = .ok (.ireturn, 1) := by decide +kernel
theorem dX11_ways_0 : decode cX11_ways 0 = .ok (.iload_n 1, 1) := by decide +kernel
theorem dX11_ways_1 : decode cX11_ways 1 = .ok (.iconst 1, 1) := by decide +kernel
theorem dX11_ways_2 : decode cX11_ways 2 = .ok (.bipush 99, 2) := by decide +kernel
theorem dX11_ways_4 : decode cX11_ways 4 = .ok (.invokestatic 174, 3) := by decide +kernel
theorem dX11_ways_7 : decode cX11_ways 7 = .ok (.ifCond .eq 7, 3) := by decide +kernel
theorem dX11_ways_10 : decode cX11_ways 10 = .ok (.iconst (-1), 1) := by decide +kernel
theorem dX11_ways_11 : decode cX11_ways 11 = .ok (.goto 11, 3) := by decide +kernel
theorem dX11_ways_14 : decode cX11_ways 14 = .ok (.aload_n 0, 1) := by decide +kernel
theorem dX11_ways_15 : decode cX11_ways 15 = .ok (.getfield 52, 3) := by decide +kernel
theorem dX11_ways_18 : decode cX11_ways 18 = .ok (.iload_n 1, 1) := by decide +kernel
theorem dX11_ways_19 : decode cX11_ways 19 = .ok (.invokevirtual 263, 3) := by decide +kernel
theorem dX11_ways_22 : decode cX11_ways 22 = .ok (.ireturn, 1) := by decide +kernel
theorem dX11_peaks_0 : decode cX11_peaks 0 = .ok (.aload_n 0, 1) := by decide +kernel
theorem dX11_peaks_1 : decode cX11_peaks 1 = .ok (.getfield 10, 3) := by decide +kernel
theorem dX11_peaks_4 : decode cX11_peaks 4 = .ok (.iload_n 1, 1) := by decide +kernel
theorem dX11_peaks_5 : decode cX11_peaks 5 = .ok (.invokevirtual 142, 3) := by decide +kernel
theorem dX11_peaks_8 : decode cX11_peaks 8 = .ok (.ifCond .eq 13, 3) := by decide +kernel
theorem dX11_peaks_11 : decode cX11_peaks 11 = .ok (.iload_n 2, 1) := by decide +kernel
theorem dX11_peaks_12 : decode cX11_peaks 12 = .ok (.iconst 1, 1) := by decide +kernel
theorem dX11_peaks_13 : decode cX11_peaks 13 = .ok (.bipush 60, 2) := by decide +kernel
theorem dX11_peaks_15 : decode cX11_peaks 15 = .ok (.invokestatic 174, 3) := by decide +kernel
theorem dX11_peaks_18 : decode cX11_peaks 18 = .ok (.ifCond .eq 5, 3) := by decide +kernel
theorem dX11_peaks_21 : decode cX11_peaks 21 = .ok (.iconst (-1), 1) := by decide +kernel
theorem dX11_peaks_22 : decode cX11_peaks 22 = .ok (.ireturn, 1) := by decide +kernel
theorem dX11_peaks_23 : decode cX11_peaks 23 = .ok (.aload_n 0, 1) := by decide +kernel
theorem dX11_peaks_24 : decode cX11_peaks 24 = .ok (.getfield 59, 3) := by decide +kernel
theorem dX11_peaks_27 : decode cX11_peaks 27 = .ok (.iload_n 1, 1) := by decide +kernel
theorem dX11_peaks_28 : decode cX11_peaks 28 = .ok (.iload_n 2, 1) := by decide +kernel
theorem dX11_peaks_29 : decode cX11_peaks 29 = .ok (.invokevirtual 266, 3) := by decide +kernel
theorem dX11_peaks_32 : decode cX11_peaks 32 = .ok (.ireturn, 1) := by decide +kernel
theorem dX11_bides_0 : decode cX11_bides 0 = .ok (.aload_n 0, 1) := by decide +kernel
theorem dX11_bides_1 : decode cX11_bides 1 = .ok (.getfield 10, 3) := by decide +kernel
theorem dX11_bides_4 : decode cX11_bides 4 = .ok (.iload_n 1, 1) := by decide +kernel
theorem dX11_bides_5 : decode cX11_bides 5 = .ok (.invokevirtual 142, 3) := by decide +kernel
theorem dX11_bides_8 : decode cX11_bides 8 = .ok (.ifCond .eq 13, 3) := by decide +kernel
theorem dX11_bides_11 : decode cX11_bides 11 = .ok (.iload_n 2, 1) := by decide +kernel
theorem dX11_bides_12 : decode cX11_bides 12 = .ok (.iconst 0, 1) := by decide +kernel
theorem dX11_bides_13 : decode cX11_bides 13 = .ok (.bipush 60, 2) := by decide +kernel
theorem dX11_bides_15 : decode cX11_bides 15 = .ok (.invokestatic 174, 3) := by decide +kernel
theorem dX11_bides_18 : decode cX11_bides 18 = .ok (.ifCond .eq 5, 3) := by decide +kernel
theorem dX11_bides_21 : decode cX11_bides 21 = .ok (.iconst (-1), 1) := by decide +kernel
theorem dX11_bides_22 : decode cX11_bides 22 = .ok (.ireturn, 1) := by decide +kernel
theorem dX11_bides_23 : decode cX11_bides 23 = .ok (.aload_n 0, 1) := by decide +kernel
theorem dX11_bides_24 : decode cX11_bides 24 = .ok (.getfield 59, 3) := by decide +kernel
theorem dX11_bides_27 : decode cX11_bides 27 = .ok (.iload_n 1, 1) := by decide +kernel
theorem dX11_bides_28 : decode cX11_bides 28 = .ok (.iload_n 2, 1) := by decide +kernel
theorem dX11_bides_29 : decode cX11_bides 29 = .ok (.invokevirtual 269, 3) := by decide +kernel
theorem dX11_bides_32 : decode cX11_bides 32 = .ok (.ireturn, 1) := by decide +kernel
theorem dX11_rivals_0 : decode cX11_rivals 0 = .ok (.aload_n 0, 1) := by decide +kernel
theorem dX11_rivals_1 : decode cX11_rivals 1 = .ok (.getfield 10, 3) := by decide +kernel
theorem dX11_rivals_4 : decode cX11_rivals 4 = .ok (.iload_n 1, 1) := by decide +kernel
theorem dX11_rivals_5 : decode cX11_rivals 5 = .ok (.invokevirtual 142, 3) := by decide +kernel
theorem dX11_rivals_8 : decode cX11_rivals 8 = .ok (.ifCond .eq 13, 3) := by decide +kernel
theorem dX11_rivals_11 : decode cX11_rivals 11 = .ok (.iload_n 2, 1) := by decide +kernel
theorem dX11_rivals_12 : decode cX11_rivals 12 = .ok (.iconst 0, 1) := by decide +kernel
theorem dX11_rivals_13 : decode cX11_rivals 13 = .ok (.bipush 60, 2) := by decide +kernel
theorem dX11_rivals_15 : decode cX11_rivals 15 = .ok (.invokestatic 174, 3) := by decide +kernel
theorem dX11_rivals_18 : decode cX11_rivals 18 = .ok (.ifCond .eq 5, 3) := by decide +kernel
theorem dX11_rivals_21 : decode cX11_rivals 21 = .ok (.iconst (-1), 1) := by decide +kernel
theorem dX11_rivals_22 : decode cX11_rivals 22 = .ok (.ireturn, 1) := by decide +kernel
theorem dX11_rivals_23 : decode cX11_rivals 23 = .ok (.aload_n 0, 1) := by decide +kernel
theorem dX11_rivals_24 : decode cX11_rivals 24 = .ok (.getfield 59, 3) := by decide +kernel
theorem dX11_rivals_27 : decode cX11_rivals 27 = .ok (.iload_n 1, 1) := by decide +kernel
theorem dX11_rivals_28 : decode cX11_rivals 28 = .ok (.iload_n 2, 1) := by decide +kernel
theorem dX11_rivals_29 : decode cX11_rivals 29 = .ok (.invokevirtual 272, 3) := by decide +kernel
theorem dX11_rivals_32 : decode cX11_rivals 32 = .ok (.ireturn, 1) := by decide +kernel
theorem dX11_goes_0 : decode cX11_goes 0 = .ok (.iload_n 1, 1) := by decide +kernel
theorem dX11_goes_1 : decode cX11_goes 1 = .ok (.iconst 1, 1) := by decide +kernel
theorem dX11_goes_2 : decode cX11_goes 2 = .ok (.bipush 60, 2) := by decide +kernel
theorem dX11_goes_4 : decode cX11_goes 4 = .ok (.invokestatic 174, 3) := by decide +kernel
theorem dX11_goes_7 : decode cX11_goes 7 = .ok (.ifCond .eq 7, 3) := by decide +kernel
theorem dX11_goes_10 : decode cX11_goes 10 = .ok (.iconst (-1), 1) := by decide +kernel
theorem dX11_goes_11 : decode cX11_goes 11 = .ok (.goto 11, 3) := by decide +kernel
theorem dX11_goes_14 : decode cX11_goes 14 = .ok (.aload_n 0, 1) := by decide +kernel
theorem dX11_goes_15 : decode cX11_goes 15 = .ok (.getfield 59, 3) := by decide +kernel
theorem dX11_goes_18 : decode cX11_goes 18 = .ok (.iload_n 1, 1) := by decide +kernel
theorem dX11_goes_19 : decode cX11_goes 19 = .ok (.invokevirtual 275, 3) := by decide +kernel
theorem dX11_goes_22 : decode cX11_goes 22 = .ok (.ireturn, 1) := by decide +kernel
theorem dX11_ousts_0 : decode cX11_ousts 0 = .ok (.aload_n 0, 1) := by decide +kernel
theorem dX11_ousts_1 : decode cX11_ousts 1 = .ok (.getfield 10, 3) := by decide +kernel
theorem dX11_ousts_4 : decode cX11_ousts 4 = .ok (.iload_n 1, 1) := by decide +kernel
theorem dX11_ousts_5 : decode cX11_ousts 5 = .ok (.invokevirtual 142, 3) := by decide +kernel
theorem dX11_ousts_8 : decode cX11_ousts 8 = .ok (.ifCond .eq 13, 3) := by decide +kernel
theorem dX11_ousts_11 : decode cX11_ousts 11 = .ok (.iload_n 2, 1) := by decide +kernel
theorem dX11_ousts_12 : decode cX11_ousts 12 = .ok (.iconst 0, 1) := by decide +kernel
theorem dX11_ousts_13 : decode cX11_ousts 13 = .ok (.bipush 60, 2) := by decide +kernel
theorem dX11_ousts_15 : decode cX11_ousts 15 = .ok (.invokestatic 174, 3) := by decide +kernel
theorem dX11_ousts_18 : decode cX11_ousts 18 = .ok (.ifCond .eq 5, 3) := by decide +kernel
theorem dX11_ousts_21 : decode cX11_ousts 21 = .ok (.iconst (-1), 1) := by decide +kernel
theorem dX11_ousts_22 : decode cX11_ousts 22 = .ok (.ireturn, 1) := by decide +kernel
theorem dX11_ousts_23 : decode cX11_ousts 23 = .ok (.aload_n 0, 1) := by decide +kernel
theorem dX11_ousts_24 : decode cX11_ousts 24 = .ok (.getfield 59, 3) := by decide +kernel
theorem dX11_ousts_27 : decode cX11_ousts 27 = .ok (.iload_n 1, 1) := by decide +kernel
theorem dX11_ousts_28 : decode cX11_ousts 28 = .ok (.iload_n 2, 1) := by decide +kernel
theorem dX11_ousts_29 : decode cX11_ousts 29 = .ok (.invokevirtual 278, 3) := by decide +kernel
theorem dX11_ousts_32 : decode cX11_ousts 32 = .ok (.ireturn, 1) := by decide +kernel
theorem dX11_lawyers_0 : decode cX11_lawyers 0 = .ok (.iload_n 1, 1) := by decide +kernel
theorem dX11_lawyers_1 : decode cX11_lawyers 1 = .ok (.iconst 0, 1) := by decide +kernel
theorem dX11_lawyers_2 : decode cX11_lawyers 2 = .ok (.bipush 9, 2) := by decide +kernel
theorem dX11_lawyers_4 : decode cX11_lawyers 4 = .ok (.invokestatic 174, 3) := by decide +kernel
theorem dX11_lawyers_7 : decode cX11_lawyers 7 = .ok (.ifCond .eq 7, 3) := by decide +kernel
theorem dX11_lawyers_10 : decode cX11_lawyers 10 = .ok (.iconst (-1), 1) := by decide +kernel
theorem dX11_lawyers_11 : decode cX11_lawyers 11 = .ok (.goto 11, 3) := by decide +kernel
theorem dX11_lawyers_14 : decode cX11_lawyers 14 = .ok (.aload_n 0, 1) := by decide +kernel
theorem dX11_lawyers_15 : decode cX11_lawyers 15 = .ok (.getfield 68, 3) := by decide +kernel
theorem dX11_lawyers_18 : decode cX11_lawyers 18 = .ok (.iload_n 1, 1) := by decide +kernel
theorem dX11_lawyers_19 : decode cX11_lawyers 19 = .ok (.invokevirtual 281, 3) := by decide +kernel
theorem dX11_lawyers_22 : decode cX11_lawyers 22 = .ok (.ireturn, 1) := by decide +kernel
theorem dX11_rope_0 : decode cX11_rope 0 = .ok (.aload_n 0, 1) := by decide +kernel
theorem dX11_rope_1 : decode cX11_rope 1 = .ok (.getfield 68, 3) := by decide +kernel
theorem dX11_rope_4 : decode cX11_rope 4 = .ok (.invokevirtual 284, 3) := by decide +kernel
theorem dX11_rope_7 : decode cX11_rope 7 = .ok (.ireturn, 1) := by decide +kernel
theorem dX11_line_0 : decode cX11_line 0 = .ok (.aload_n 0, 1) := by decide +kernel
theorem dX11_line_1 : decode cX11_line 1 = .ok (.getfield 68, 3) := by decide +kernel
theorem dX11_line_4 : decode cX11_line 4 = .ok (.invokevirtual 287, 3) := by decide +kernel
theorem dX11_line_7 : decode cX11_line 7 = .ok (.ireturn, 1) := by decide +kernel
theorem dX11_nearest_0 : decode cX11_nearest 0 = .ok (.aload_n 0, 1) := by decide +kernel
theorem dX11_nearest_1 : decode cX11_nearest 1 = .ok (.getfield 68, 3) := by decide +kernel
theorem dX11_nearest_4 : decode cX11_nearest 4 = .ok (.invokevirtual 290, 3) := by decide +kernel
theorem dX11_nearest_7 : decode cX11_nearest 7 = .ok (.ireturn, 1) := by decide +kernel
theorem dX11_stones_0 : decode cX11_stones 0 = .ok (.iload_n 1, 1) := by decide +kernel
theorem dX11_stones_1 : decode cX11_stones 1 = .ok (.iconst 0, 1) := by decide +kernel
theorem dX11_stones_2 : decode cX11_stones 2 = .ok (.sipush 999, 3) := by decide +kernel
theorem dX11_stones_5 : decode cX11_stones 5 = .ok (.invokestatic 174, 3) := by decide +kernel
theorem dX11_stones_8 : decode cX11_stones 8 = .ok (.ifCond .eq 7, 3) := by decide +kernel
theorem dX11_stones_11 : decode cX11_stones 11 = .ok (.iconst (-1), 1) := by decide +kernel
theorem dX11_stones_12 : decode cX11_stones 12 = .ok (.goto 11, 3) := by decide +kernel
theorem dX11_stones_15 : decode cX11_stones 15 = .ok (.aload_n 0, 1) := by decide +kernel
theorem dX11_stones_16 : decode cX11_stones 16 = .ok (.getfield 68, 3) := by decide +kernel
theorem dX11_stones_19 : decode cX11_stones 19 = .ok (.iload_n 1, 1) := by decide +kernel
theorem dX11_stones_20 : decode cX11_stones 20 = .ok (.invokevirtual 293, 3) := by decide +kernel
theorem dX11_stones_23 : decode cX11_stones 23 = .ok (.ireturn, 1) := by decide +kernel
theorem dX11_parties_0 : decode cX11_parties 0 = .ok (.aload_n 0, 1) := by decide +kernel
theorem dX11_parties_1 : decode cX11_parties 1 = .ok (.getfield 68, 3) := by decide +kernel
theorem dX11_parties_4 : decode cX11_parties 4 = .ok (.invokevirtual 296, 3) := by decide +kernel
theorem dX11_parties_7 : decode cX11_parties 7 = .ok (.ireturn, 1) := by decide +kernel
theorem dX11_heard_0 : decode cX11_heard 0 = .ok (.aload_n 0, 1) := by decide +kernel
theorem dX11_heard_1 : decode cX11_heard 1 = .ok (.getfield 75, 3) := by decide +kernel
theorem dX11_heard_4 : decode cX11_heard 4 = .ok (.iload_n 1, 1) := by decide +kernel
theorem dX11_heard_5 : decode cX11_heard 5 = .ok (.iload_n 2, 1) := by decide +kernel
theorem dX11_heard_6 : decode cX11_heard 6 = .ok (.invokevirtual 299, 3) := by decide +kernel
theorem dX11_heard_9 : decode cX11_heard 9 = .ok (.ireturn, 1) := by decide +kernel
theorem dX11_forget_0 : decode cX11_forget 0 = .ok (.aload_n 0, 1) := by decide +kernel
theorem dX11_forget_1 : decode cX11_forget 1 = .ok (.getfield 75, 3) := by decide +kernel
theorem dX11_forget_4 : decode cX11_forget 4 = .ok (.invokevirtual 302, 3) := by decide +kernel
theorem dX11_forget_7 : decode cX11_forget 7 = .ok (.ireturn, 1) := by decide +kernel
theorem dX11_fits_0 : decode cX11_fits 0 = .ok (.aload_n 0, 1) := by decide +kernel
theorem dX11_fits_1 : decode cX11_fits 1 = .ok (.getfield 75, 3) := by decide +kernel
theorem dX11_fits_4 : decode cX11_fits 4 = .ok (.invokevirtual 305, 3) := by decide +kernel
theorem dX11_fits_7 : decode cX11_fits 7 = .ok (.ireturn, 1) := by decide +kernel
theorem dX11_asks_0 : decode cX11_asks 0 = .ok (.aload_n 0, 1) := by decide +kernel
theorem dX11_asks_1 : decode cX11_asks 1 = .ok (.getfield 75, 3) := by decide +kernel
theorem dX11_asks_4 : decode cX11_asks 4 = .ok (.invokevirtual 308, 3) := by decide +kernel
theorem dX11_asks_7 : decode cX11_asks 7 = .ok (.ireturn, 1) := by decide +kernel
theorem dX11_saw_0 : decode cX11_saw 0 = .ok (.aload_n 0, 1) := by decide +kernel
theorem dX11_saw_1 : decode cX11_saw 1 = .ok (.getfield 84, 3) := by decide +kernel
theorem dX11_saw_4 : decode cX11_saw 4 = .ok (.iload_n 1, 1) := by decide +kernel
theorem dX11_saw_5 : decode cX11_saw 5 = .ok (.iload_n 2, 1) := by decide +kernel
theorem dX11_saw_6 : decode cX11_saw 6 = .ok (.invokevirtual 311, 3) := by decide +kernel
theorem dX11_saw_9 : decode cX11_saw 9 = .ok (.ireturn, 1) := by decide +kernel
theorem dX11_denies_0 : decode cX11_denies 0 = .ok (.aload_n 0, 1) := by decide +kernel
theorem dX11_denies_1 : decode cX11_denies 1 = .ok (.getfield 84, 3) := by decide +kernel
theorem dX11_denies_4 : decode cX11_denies 4 = .ok (.invokevirtual 314, 3) := by decide +kernel
theorem dX11_denies_7 : decode cX11_denies 7 = .ok (.ireturn, 1) := by decide +kernel
theorem dX11_laws_0 : decode cX11_laws 0 = .ok (.aload_n 0, 1) := by decide +kernel
theorem dX11_laws_1 : decode cX11_laws 1 = .ok (.getfield 84, 3) := by decide +kernel
theorem dX11_laws_4 : decode cX11_laws 4 = .ok (.invokevirtual 315, 3) := by decide +kernel
theorem dX11_laws_7 : decode cX11_laws 7 = .ok (.ireturn, 1) := by decide +kernel
theorem dX11_looks_0 : decode cX11_looks 0 = .ok (.aload_n 0, 1) := by decide +kernel
theorem dX11_looks_1 : decode cX11_looks 1 = .ok (.getfield 84, 3) := by decide +kernel
theorem dX11_looks_4 : decode cX11_looks 4 = .ok (.invokevirtual 318, 3) := by decide +kernel
theorem dX11_looks_7 : decode cX11_looks 7 = .ok (.ireturn, 1) := by decide +kernel
theorem dX11_strays_0 : decode cX11_strays 0 = .ok (.iload_n 1, 1) := by decide +kernel
theorem dX11_strays_1 : decode cX11_strays 1 = .ok (.iconst 0, 1) := by decide +kernel
theorem dX11_strays_2 : decode cX11_strays 2 = .ok (.aload_n 0, 1) := by decide +kernel
theorem dX11_strays_3 : decode cX11_strays 3 = .ok (.getfield 10, 3) := by decide +kernel
theorem dX11_strays_6 : decode cX11_strays 6 = .ok (.getfield 321, 3) := by decide +kernel
theorem dX11_strays_9 : decode cX11_strays 9 = .ok (.invokestatic 174, 3) := by decide +kernel
theorem dX11_strays_12 : decode cX11_strays 12 = .ok (.ifCond .ne 13, 3) := by decide +kernel
theorem dX11_strays_15 : decode cX11_strays 15 = .ok (.iload_n 2, 1) := by decide +kernel
theorem dX11_strays_16 : decode cX11_strays 16 = .ok (.iconst 0, 1) := by decide +kernel
theorem dX11_strays_17 : decode cX11_strays 17 = .ok (.bipush 10, 2) := by decide +kernel
theorem dX11_strays_19 : decode cX11_strays 19 = .ok (.invokestatic 174, 3) := by decide +kernel
theorem dX11_strays_22 : decode cX11_strays 22 = .ok (.ifCond .eq 5, 3) := by decide +kernel
theorem dX11_strays_25 : decode cX11_strays 25 = .ok (.iconst (-1), 1) := by decide +kernel
theorem dX11_strays_26 : decode cX11_strays 26 = .ok (.ireturn, 1) := by decide +kernel
theorem dX11_strays_27 : decode cX11_strays 27 = .ok (.aload_n 0, 1) := by decide +kernel
theorem dX11_strays_28 : decode cX11_strays 28 = .ok (.getfield 91, 3) := by decide +kernel
theorem dX11_strays_31 : decode cX11_strays 31 = .ok (.iload_n 1, 1) := by decide +kernel
theorem dX11_strays_32 : decode cX11_strays 32 = .ok (.iload_n 2, 1) := by decide +kernel
theorem dX11_strays_33 : decode cX11_strays 33 = .ok (.aload_n 0, 1) := by decide +kernel
theorem dX11_strays_34 : decode cX11_strays 34 = .ok (.getfield 10, 3) := by decide +kernel
theorem dX11_strays_37 : decode cX11_strays 37 = .ok (.getfield 321, 3) := by decide +kernel
theorem dX11_strays_40 : decode cX11_strays 40 = .ok (.invokevirtual 324, 3) := by decide +kernel
theorem dX11_strays_43 : decode cX11_strays 43 = .ok (.ireturn, 1) := by decide +kernel
theorem dX11_bend_0 : decode cX11_bend 0 = .ok (.iload_n 1, 1) := by decide +kernel
theorem dX11_bend_1 : decode cX11_bend 1 = .ok (.iconst 1, 1) := by decide +kernel
theorem dX11_bend_2 : decode cX11_bend 2 = .ok (.bipush 20, 2) := by decide +kernel
theorem dX11_bend_4 : decode cX11_bend 4 = .ok (.invokestatic 174, 3) := by decide +kernel
theorem dX11_bend_7 : decode cX11_bend 7 = .ok (.ifCond .ne 13, 3) := by decide +kernel
theorem dX11_bend_10 : decode cX11_bend 10 = .ok (.iload_n 2, 1) := by decide +kernel
theorem dX11_bend_11 : decode cX11_bend 11 = .ok (.iconst 1, 1) := by decide +kernel
theorem dX11_bend_12 : decode cX11_bend 12 = .ok (.bipush 20, 2) := by decide +kernel
theorem dX11_bend_14 : decode cX11_bend 14 = .ok (.invokestatic 174, 3) := by decide +kernel
theorem dX11_bend_17 : decode cX11_bend 17 = .ok (.ifCond .eq 5, 3) := by decide +kernel
theorem dX11_bend_20 : decode cX11_bend 20 = .ok (.iconst (-1), 1) := by decide +kernel
theorem dX11_bend_21 : decode cX11_bend 21 = .ok (.ireturn, 1) := by decide +kernel
theorem dX11_bend_22 : decode cX11_bend 22 = .ok (.aload_n 0, 1) := by decide +kernel
theorem dX11_bend_23 : decode cX11_bend 23 = .ok (.getfield 91, 3) := by decide +kernel
theorem dX11_bend_26 : decode cX11_bend 26 = .ok (.iload_n 1, 1) := by decide +kernel
theorem dX11_bend_27 : decode cX11_bend 27 = .ok (.iload_n 2, 1) := by decide +kernel
theorem dX11_bend_28 : decode cX11_bend 28 = .ok (.invokevirtual 328, 3) := by decide +kernel
theorem dX11_bend_31 : decode cX11_bend 31 = .ok (.ireturn, 1) := by decide +kernel
theorem dX11_rests_0 : decode cX11_rests 0 = .ok (.iload_n 1, 1) := by decide +kernel
theorem dX11_rests_1 : decode cX11_rests 1 = .ok (.iconst 0, 1) := by decide +kernel
theorem dX11_rests_2 : decode cX11_rests 2 = .ok (.bipush 20, 2) := by decide +kernel
theorem dX11_rests_4 : decode cX11_rests 4 = .ok (.invokestatic 174, 3) := by decide +kernel
theorem dX11_rests_7 : decode cX11_rests 7 = .ok (.ifCond .eq 7, 3) := by decide +kernel
theorem dX11_rests_10 : decode cX11_rests 10 = .ok (.iconst (-1), 1) := by decide +kernel
theorem dX11_rests_11 : decode cX11_rests 11 = .ok (.goto 11, 3) := by decide +kernel
theorem dX11_rests_14 : decode cX11_rests 14 = .ok (.aload_n 0, 1) := by decide +kernel
theorem dX11_rests_15 : decode cX11_rests 15 = .ok (.getfield 91, 3) := by decide +kernel
theorem dX11_rests_18 : decode cX11_rests 18 = .ok (.iload_n 1, 1) := by decide +kernel
theorem dX11_rests_19 : decode cX11_rests 19 = .ok (.invokevirtual 331, 3) := by decide +kernel
theorem dX11_rests_22 : decode cX11_rests 22 = .ok (.ireturn, 1) := by decide +kernel
theorem dX11_law_0 : decode cX11_law 0 = .ok (.aload_n 0, 1) := by decide +kernel
theorem dX11_law_1 : decode cX11_law 1 = .ok (.getfield 23, 3) := by decide +kernel
theorem dX11_law_4 : decode cX11_law 4 = .ok (.aload_n 0, 1) := by decide +kernel
theorem dX11_law_5 : decode cX11_law 5 = .ok (.getfield 29, 3) := by decide +kernel
theorem dX11_law_8 : decode cX11_law 8 = .ok (.invokevirtual 124, 3) := by decide +kernel
theorem dX11_law_11 : decode cX11_law 11 = .ok (.istore_n 1, 1) := by decide +kernel
theorem dX11_law_12 : decode cX11_law 12 = .ok (.aload_n 0, 1) := by decide +kernel
theorem dX11_law_13 : decode cX11_law 13 = .ok (.getfield 29, 3) := by decide +kernel
theorem dX11_law_16 : decode cX11_law 16 = .ok (.invokevirtual 121, 3) := by decide +kernel
theorem dX11_law_19 : decode cX11_law 19 = .ok (.iload_n 1, 1) := by decide +kernel
theorem dX11_law_20 : decode cX11_law 20 = .ok (.iconst (-1), 1) := by decide +kernel
theorem dX11_law_21 : decode cX11_law 21 = .ok (.if_icmp .eq 11, 3) := by decide +kernel
theorem dX11_law_24 : decode cX11_law 24 = .ok (.sipush (-10000), 3) := by decide +kernel
theorem dX11_law_27 : decode cX11_law 27 = .ok (.iload_n 1, 1) := by decide +kernel
theorem dX11_law_28 : decode cX11_law 28 = .ok (.isub, 1) := by decide +kernel
theorem dX11_law_29 : decode cX11_law 29 = .ok (.goto 14, 3) := by decide +kernel
theorem dX11_law_32 : decode cX11_law 32 = .ok (.aload_n 0, 1) := by decide +kernel
theorem dX11_law_33 : decode cX11_law 33 = .ok (.getfield 59, 3) := by decide +kernel
theorem dX11_law_36 : decode cX11_law 36 = .ok (.aload_n 0, 1) := by decide +kernel
theorem dX11_law_37 : decode cX11_law 37 = .ok (.getfield 23, 3) := by decide +kernel
theorem dX11_law_40 : decode cX11_law 40 = .ok (.invokevirtual 334, 3) := by decide +kernel
theorem dX11_law_43 : decode cX11_law 43 = .ok (.ireturn, 1) := by decide +kernel
theorem dX11_years_0 : decode cX11_years 0 = .ok (.iload_n 2, 1) := by decide +kernel
theorem dX11_years_1 : decode cX11_years 1 = .ok (.iconst 1, 1) := by decide +kernel
theorem dX11_years_2 : decode cX11_years 2 = .ok (.bipush 60, 2) := by decide +kernel
theorem dX11_years_4 : decode cX11_years 4 = .ok (.invokestatic 174, 3) := by decide +kernel
theorem dX11_years_7 : decode cX11_years 7 = .ok (.ifCond .eq 7, 3) := by decide +kernel
theorem dX11_years_10 : decode cX11_years 10 = .ok (.iconst (-1), 1) := by decide +kernel
theorem dX11_years_11 : decode cX11_years 11 = .ok (.goto 12, 3) := by decide +kernel
theorem dX11_years_14 : decode cX11_years 14 = .ok (.aload_n 0, 1) := by decide +kernel
theorem dX11_years_15 : decode cX11_years 15 = .ok (.getfield 59, 3) := by decide +kernel
theorem dX11_years_18 : decode cX11_years 18 = .ok (.iload_n 1, 1) := by decide +kernel
theorem dX11_years_19 : decode cX11_years 19 = .ok (.iload_n 2, 1) := by decide +kernel
theorem dX11_years_20 : decode cX11_years 20 = .ok (.invokevirtual 338, 3) := by decide +kernel
theorem dX11_years_23 : decode cX11_years 23 = .ok (.ireturn, 1) := by decide +kernel
theorem dX11_keep_0 : decode cX11_keep 0 = .ok (.aload_n 0, 1) := by decide +kernel
theorem dX11_keep_1 : decode cX11_keep 1 = .ok (.getfield 43, 3) := by decide +kernel
theorem dX11_keep_4 : decode cX11_keep 4 = .ok (.iload_n 1, 1) := by decide +kernel
theorem dX11_keep_5 : decode cX11_keep 5 = .ok (.aload_n 0, 1) := by decide +kernel
theorem dX11_keep_6 : decode cX11_keep 6 = .ok (.getfield 10, 3) := by decide +kernel
theorem dX11_keep_9 : decode cX11_keep 9 = .ok (.invokevirtual 341, 3) := by decide +kernel
theorem dX11_keep_12 : decode cX11_keep 12 = .ok (.ireturn, 1) := by decide +kernel
theorem dX11_again_0 : decode cX11_again 0 = .ok (.aload_n 0, 1) := by decide +kernel
theorem dX11_again_1 : decode cX11_again 1 = .ok (.getfield 43, 3) := by decide +kernel
theorem dX11_again_4 : decode cX11_again 4 = .ok (.iload_n 1, 1) := by decide +kernel
theorem dX11_again_5 : decode cX11_again 5 = .ok (.aload_n 0, 1) := by decide +kernel
theorem dX11_again_6 : decode cX11_again 6 = .ok (.getfield 10, 3) := by decide +kernel
theorem dX11_again_9 : decode cX11_again 9 = .ok (.invokevirtual 345, 3) := by decide +kernel
theorem dX11_again_12 : decode cX11_again 12 = .ok (.ireturn, 1) := by decide +kernel
theorem dX11_count_0 : decode cX11_count 0 = .ok (.iload_n 1, 1) := by decide +kernel
theorem dX11_count_1 : decode cX11_count 1 = .ok (.tableswitch 235 0 15 #[79, 87, 95, 103, 111, 119, 127, 142, 157, 165, 173, 181, 189, 197, 212, 227], 79) := by decide +kernel
theorem dX11_count_80 : decode cX11_count 80 = .ok (.aload_n 0, 1) := by decide +kernel
theorem dX11_count_81 : decode cX11_count 81 = .ok (.getfield 10, 3) := by decide +kernel
theorem dX11_count_84 : decode cX11_count 84 = .ok (.getfield 103, 3) := by decide +kernel
theorem dX11_count_87 : decode cX11_count 87 = .ok (.ireturn, 1) := by decide +kernel
theorem dX11_count_88 : decode cX11_count 88 = .ok (.aload_n 0, 1) := by decide +kernel
theorem dX11_count_89 : decode cX11_count 89 = .ok (.getfield 10, 3) := by decide +kernel
theorem dX11_count_92 : decode cX11_count 92 = .ok (.getfield 321, 3) := by decide +kernel
theorem dX11_count_95 : decode cX11_count 95 = .ok (.ireturn, 1) := by decide +kernel
theorem dX11_count_96 : decode cX11_count 96 = .ok (.aload_n 0, 1) := by decide +kernel
theorem dX11_count_97 : decode cX11_count 97 = .ok (.getfield 10, 3) := by decide +kernel
theorem dX11_count_100 : decode cX11_count 100 = .ok (.getfield 201, 3) := by decide +kernel
theorem dX11_count_103 : decode cX11_count 103 = .ok (.ireturn, 1) := by decide +kernel
theorem dX11_count_104 : decode cX11_count 104 = .ok (.aload_n 0, 1) := by decide +kernel
theorem dX11_count_105 : decode cX11_count 105 = .ok (.getfield 10, 3) := by decide +kernel
theorem dX11_count_108 : decode cX11_count 108 = .ok (.getfield 229, 3) := by decide +kernel
theorem dX11_count_111 : decode cX11_count 111 = .ok (.ireturn, 1) := by decide +kernel
theorem dX11_count_112 : decode cX11_count 112 = .ok (.aload_n 0, 1) := by decide +kernel
theorem dX11_count_113 : decode cX11_count 113 = .ok (.getfield 10, 3) := by decide +kernel
theorem dX11_count_116 : decode cX11_count 116 = .ok (.getfield 348, 3) := by decide +kernel
theorem dX11_count_119 : decode cX11_count 119 = .ok (.ireturn, 1) := by decide +kernel
theorem dX11_count_120 : decode cX11_count 120 = .ok (.aload_n 0, 1) := by decide +kernel
theorem dX11_count_121 : decode cX11_count 121 = .ok (.getfield 10, 3) := by decide +kernel
theorem dX11_count_124 : decode cX11_count 124 = .ok (.invokevirtual 351, 3) := by decide +kernel
theorem dX11_count_127 : decode cX11_count 127 = .ok (.ireturn, 1) := by decide +kernel
theorem dX11_count_128 : decode cX11_count 128 = .ok (.aload_n 0, 1) := by decide +kernel
theorem dX11_count_129 : decode cX11_count 129 = .ok (.getfield 10, 3) := by decide +kernel
theorem dX11_count_132 : decode cX11_count 132 = .ok (.aload_n 0, 1) := by decide +kernel
theorem dX11_count_133 : decode cX11_count 133 = .ok (.getfield 10, 3) := by decide +kernel
theorem dX11_count_136 : decode cX11_count 136 = .ok (.getfield 156, 3) := by decide +kernel
theorem dX11_count_139 : decode cX11_count 139 = .ok (.invokevirtual 182, 3) := by decide +kernel
theorem dX11_count_142 : decode cX11_count 142 = .ok (.ireturn, 1) := by decide +kernel
theorem dX11_count_143 : decode cX11_count 143 = .ok (.aload_n 0, 1) := by decide +kernel
theorem dX11_count_144 : decode cX11_count 144 = .ok (.getfield 10, 3) := by decide +kernel
theorem dX11_count_147 : decode cX11_count 147 = .ok (.aload_n 0, 1) := by decide +kernel
theorem dX11_count_148 : decode cX11_count 148 = .ok (.getfield 10, 3) := by decide +kernel
theorem dX11_count_151 : decode cX11_count 151 = .ok (.getfield 165, 3) := by decide +kernel
theorem dX11_count_154 : decode cX11_count 154 = .ok (.invokevirtual 182, 3) := by decide +kernel
theorem dX11_count_157 : decode cX11_count 157 = .ok (.ireturn, 1) := by decide +kernel
theorem dX11_count_158 : decode cX11_count 158 = .ok (.aload_n 0, 1) := by decide +kernel
theorem dX11_count_159 : decode cX11_count 159 = .ok (.getfield 75, 3) := by decide +kernel
theorem dX11_count_162 : decode cX11_count 162 = .ok (.getfield 354, 3) := by decide +kernel
theorem dX11_count_165 : decode cX11_count 165 = .ok (.ireturn, 1) := by decide +kernel
theorem dX11_count_166 : decode cX11_count 166 = .ok (.aload_n 0, 1) := by decide +kernel
theorem dX11_count_167 : decode cX11_count 167 = .ok (.getfield 84, 3) := by decide +kernel
theorem dX11_count_170 : decode cX11_count 170 = .ok (.getfield 355, 3) := by decide +kernel
theorem dX11_count_173 : decode cX11_count 173 = .ok (.ireturn, 1) := by decide +kernel
theorem dX11_count_174 : decode cX11_count 174 = .ok (.aload_n 0, 1) := by decide +kernel
theorem dX11_count_175 : decode cX11_count 175 = .ok (.getfield 43, 3) := by decide +kernel
theorem dX11_count_178 : decode cX11_count 178 = .ok (.getfield 356, 3) := by decide +kernel
theorem dX11_count_181 : decode cX11_count 181 = .ok (.ireturn, 1) := by decide +kernel
theorem dX11_count_182 : decode cX11_count 182 = .ok (.aload_n 0, 1) := by decide +kernel
theorem dX11_count_183 : decode cX11_count 183 = .ok (.getfield 36, 3) := by decide +kernel
theorem dX11_count_186 : decode cX11_count 186 = .ok (.getfield 357, 3) := by decide +kernel
theorem dX11_count_189 : decode cX11_count 189 = .ok (.ireturn, 1) := by decide +kernel
theorem dX11_count_190 : decode cX11_count 190 = .ok (.aload_n 0, 1) := by decide +kernel
theorem dX11_count_191 : decode cX11_count 191 = .ok (.getfield 29, 3) := by decide +kernel
theorem dX11_count_194 : decode cX11_count 194 = .ok (.getfield 110, 3) := by decide +kernel
theorem dX11_count_197 : decode cX11_count 197 = .ok (.ireturn, 1) := by decide +kernel
theorem dX11_count_198 : decode cX11_count 198 = .ok (.aload_n 0, 1) := by decide +kernel
theorem dX11_count_199 : decode cX11_count 199 = .ok (.getfield 10, 3) := by decide +kernel
theorem dX11_count_202 : decode cX11_count 202 = .ok (.aload_n 0, 1) := by decide +kernel
theorem dX11_count_203 : decode cX11_count 203 = .ok (.getfield 10, 3) := by decide +kernel
theorem dX11_count_206 : decode cX11_count 206 = .ok (.getfield 162, 3) := by decide +kernel
theorem dX11_count_209 : decode cX11_count 209 = .ok (.invokevirtual 182, 3) := by decide +kernel
theorem dX11_count_212 : decode cX11_count 212 = .ok (.ireturn, 1) := by decide +kernel
theorem dX11_count_213 : decode cX11_count 213 = .ok (.aload_n 0, 1) := by decide +kernel
theorem dX11_count_214 : decode cX11_count 214 = .ok (.getfield 10, 3) := by decide +kernel
theorem dX11_count_217 : decode cX11_count 217 = .ok (.aload_n 0, 1) := by decide +kernel
theorem dX11_count_218 : decode cX11_count 218 = .ok (.getfield 10, 3) := by decide +kernel
theorem dX11_count_221 : decode cX11_count 221 = .ok (.getfield 152, 3) := by decide +kernel
theorem dX11_count_224 : decode cX11_count 224 = .ok (.invokevirtual 182, 3) := by decide +kernel
theorem dX11_count_227 : decode cX11_count 227 = .ok (.ireturn, 1) := by decide +kernel
theorem dX11_count_228 : decode cX11_count 228 = .ok (.aload_n 0, 1) := by decide +kernel
theorem dX11_count_229 : decode cX11_count 229 = .ok (.getfield 10, 3) := by decide +kernel
theorem dX11_count_232 : decode cX11_count 232 = .ok (.invokevirtual 358, 3) := by decide +kernel
theorem dX11_count_235 : decode cX11_count 235 = .ok (.ireturn, 1) := by decide +kernel
theorem dX11_count_236 : decode cX11_count 236 = .ok (.iconst (-1), 1) := by decide +kernel
theorem dX11_count_237 : decode cX11_count 237 = .ok (.ireturn, 1) := by decide +kernel
theorem dX11_row_0 : decode cX11_row 0 = .ok (.aload_n 0, 1) := by decide +kernel
theorem dX11_row_1 : decode cX11_row 1 = .ok (.getfield 36, 3) := by decide +kernel
theorem dX11_row_4 : decode cX11_row 4 = .ok (.iload_n 1, 1) := by decide +kernel
theorem dX11_row_5 : decode cX11_row 5 = .ok (.invokevirtual 361, 3) := by decide +kernel
theorem dX11_row_8 : decode cX11_row 8 = .ok (.ifCond .ne 14, 3) := by decide +kernel
theorem dX11_row_11 : decode cX11_row 11 = .ok (.new 145, 3) := by decide +kernel
theorem dX11_row_14 : decode cX11_row 14 = .ok (.dup, 1) := by decide +kernel
theorem dX11_row_15 : decode cX11_row 15 = .ok (.ldc_w 362, 3) := by decide +kernel
theorem dX11_row_18 : decode cX11_row 18 = .ok (.invokespecial 149, 3) := by decide +kernel
theorem dX11_row_21 : decode cX11_row 21 = .ok (.athrow, 1) := by decide +kernel
theorem dX11_row_22 : decode cX11_row 22 = .ok (.aload_n 0, 1) := by decide +kernel
theorem dX11_row_23 : decode cX11_row 23 = .ok (.getfield 36, 3) := by decide +kernel
theorem dX11_row_26 : decode cX11_row 26 = .ok (.getfield 364, 3) := by decide +kernel
theorem dX11_row_29 : decode cX11_row 29 = .ok (.iload_n 1, 1) := by decide +kernel
theorem dX11_row_30 : decode cX11_row 30 = .ok (.laload, 1) := by decide +kernel
theorem dX11_row_31 : decode cX11_row 31 = .ok (.lreturn, 1) := by decide +kernel
theorem dX11_outside_0 : decode cX11_outside 0 = .ok (.iload_n 0, 1) := by decide +kernel
theorem dX11_outside_1 : decode cX11_outside 1 = .ok (.iload_n 1, 1) := by decide +kernel
theorem dX11_outside_2 : decode cX11_outside 2 = .ok (.if_icmp .lt 8, 3) := by decide +kernel
theorem dX11_outside_5 : decode cX11_outside 5 = .ok (.iload_n 0, 1) := by decide +kernel
theorem dX11_outside_6 : decode cX11_outside 6 = .ok (.iload_n 2, 1) := by decide +kernel
theorem dX11_outside_7 : decode cX11_outside 7 = .ok (.if_icmp .le 7, 3) := by decide +kernel
theorem dX11_outside_10 : decode cX11_outside 10 = .ok (.iconst 1, 1) := by decide +kernel
theorem dX11_outside_11 : decode cX11_outside 11 = .ok (.goto 4, 3) := by decide +kernel
theorem dX11_outside_14 : decode cX11_outside 14 = .ok (.iconst 0, 1) := by decide +kernel
theorem dX11_outside_15 : decode cX11_outside 15 = .ok (.ireturn, 1) := by decide +kernel
theorem dX11_within_0 : decode cX11_within 0 = .ok (.iload_n 0, 1) := by decide +kernel
theorem dX11_within_1 : decode cX11_within 1 = .ok (.iload_n 1, 1) := by decide +kernel
theorem dX11_within_2 : decode cX11_within 2 = .ok (.if_icmp .ge 7, 3) := by decide +kernel
theorem dX11_within_5 : decode cX11_within 5 = .ok (.iload_n 1, 1) := by decide +kernel
theorem dX11_within_6 : decode cX11_within 6 = .ok (.goto 13, 3) := by decide +kernel
theorem dX11_within_9 : decode cX11_within 9 = .ok (.iload_n 0, 1) := by decide +kernel
theorem dX11_within_10 : decode cX11_within 10 = .ok (.iload_n 2, 1) := by decide +kernel
theorem dX11_within_11 : decode cX11_within 11 = .ok (.if_icmp .le 7, 3) := by decide +kernel
theorem dX11_within_14 : decode cX11_within 14 = .ok (.iload_n 2, 1) := by decide +kernel
theorem dX11_within_15 : decode cX11_within 15 = .ok (.goto 4, 3) := by decide +kernel
theorem dX11_within_18 : decode cX11_within 18 = .ok (.iload_n 0, 1) := by decide +kernel
theorem dX11_within_19 : decode cX11_within 19 = .ok (.ireturn, 1) := by decide +kernel
theorem dX12_init_0 : decode cX12_init 0 = .ok (.aload_n 0, 1) := by decide +kernel
theorem dX12_init_1 : decode cX12_init 1 = .ok (.invokespecial 3, 3) := by decide +kernel
theorem dX12_init_4 : decode cX12_init 4 = .ok (.aload_n 0, 1) := by decide +kernel
theorem dX12_init_5 : decode cX12_init 5 = .ok (.bipush 32, 2) := by decide +kernel
theorem dX12_init_7 : decode cX12_init 7 = .ok (.newarray .int, 2) := by decide +kernel
theorem dX12_init_9 : decode cX12_init 9 = .ok (.putfield 9, 3) := by decide +kernel
theorem dX12_init_12 : decode cX12_init 12 = .ok (.aload_n 0, 1) := by decide +kernel
theorem dX12_init_13 : decode cX12_init 13 = .ok (.bipush 7, 2) := by decide +kernel
theorem dX12_init_15 : decode cX12_init 15 = .ok (.newarray .int, 2) := by decide +kernel
theorem dX12_init_17 : decode cX12_init 17 = .ok (.putfield 13, 3) := by decide +kernel
theorem dX12_init_20 : decode cX12_init 20 = .ok (.aload_n 0, 1) := by decide +kernel
theorem dX12_init_21 : decode cX12_init 21 = .ok (.bipush 80, 2) := by decide +kernel
theorem dX12_init_23 : decode cX12_init 23 = .ok (.newarray .byte, 2) := by decide +kernel
theorem dX12_init_25 : decode cX12_init 25 = .ok (.putfield 16, 3) := by decide +kernel
theorem dX12_init_28 : decode cX12_init 28 = .ok (.aload_n 0, 1) := by decide +kernel
theorem dX12_init_29 : decode cX12_init 29 = .ok (.bipush 16, 2) := by decide +kernel
theorem dX12_init_31 : decode cX12_init 31 = .ok (.newarray .long, 2) := by decide +kernel
theorem dX12_init_33 : decode cX12_init 33 = .ok (.putfield 20, 3) := by decide +kernel
theorem dX12_init_36 : decode cX12_init 36 = .ok (.aload_n 0, 1) := by decide +kernel
theorem dX12_init_37 : decode cX12_init 37 = .ok (.bipush 7, 2) := by decide +kernel
theorem dX12_init_39 : decode cX12_init 39 = .ok (.newarray .int, 2) := by decide +kernel
theorem dX12_init_41 : decode cX12_init 41 = .ok (.putfield 24, 3) := by decide +kernel
theorem dX12_init_44 : decode cX12_init 44 = .ok (.aload_n 0, 1) := by decide +kernel
theorem dX12_init_45 : decode cX12_init 45 = .ok (.bipush 40, 2) := by decide +kernel
theorem dX12_init_47 : decode cX12_init 47 = .ok (.newarray .byte, 2) := by decide +kernel
theorem dX12_init_49 : decode cX12_init 49 = .ok (.putfield 27, 3) := by decide +kernel
theorem dX12_init_52 : decode cX12_init 52 = .ok (.aload_n 0, 1) := by decide +kernel
theorem dX12_init_53 : decode cX12_init 53 = .ok (.bipush 40, 2) := by decide +kernel
theorem dX12_init_55 : decode cX12_init 55 = .ok (.newarray .byte, 2) := by decide +kernel
theorem dX12_init_57 : decode cX12_init 57 = .ok (.putfield 30, 3) := by decide +kernel
theorem dX12_init_60 : decode cX12_init 60 = .ok (.aload_n 0, 1) := by decide +kernel
theorem dX12_init_61 : decode cX12_init 61 = .ok (.bipush 7, 2) := by decide +kernel
theorem dX12_init_63 : decode cX12_init 63 = .ok (.newarray .int, 2) := by decide +kernel
theorem dX12_init_65 : decode cX12_init 65 = .ok (.putfield 33, 3) := by decide +kernel
theorem dX12_init_68 : decode cX12_init 68 = .ok (.aload_n 0, 1) := by decide +kernel
theorem dX12_init_69 : decode cX12_init 69 = .ok (.sipush 384, 3) := by decide +kernel
theorem dX12_init_72 : decode cX12_init 72 = .ok (.newarray .int, 2) := by decide +kernel
theorem dX12_init_74 : decode cX12_init 74 = .ok (.putfield 36, 3) := by decide +kernel
theorem dX12_init_77 : decode cX12_init 77 = .ok (.aload_n 0, 1) := by decide +kernel
theorem dX12_init_78 : decode cX12_init 78 = .ok (.bipush 32, 2) := by decide +kernel
theorem dX12_init_80 : decode cX12_init 80 = .ok (.newarray .int, 2) := by decide +kernel
theorem dX12_init_82 : decode cX12_init 82 = .ok (.putfield 39, 3) := by decide +kernel
theorem dX12_init_85 : decode cX12_init 85 = .ok (.aload_n 0, 1) := by decide +kernel
theorem dX12_init_86 : decode cX12_init 86 = .ok (.bipush 32, 2) := by decide +kernel
theorem dX12_init_88 : decode cX12_init 88 = .ok (.newarray .int, 2) := by decide +kernel
theorem dX12_init_90 : decode cX12_init 90 = .ok (.putfield 42, 3) := by decide +kernel
theorem dX12_init_93 : decode cX12_init 93 = .ok (.aload_n 0, 1) := by decide +kernel
theorem dX12_init_94 : decode cX12_init 94 = .ok (.bipush 7, 2) := by decide +kernel
theorem dX12_init_96 : decode cX12_init 96 = .ok (.newarray .int, 2) := by decide +kernel
theorem dX12_init_98 : decode cX12_init 98 = .ok (.putfield 45, 3) := by decide +kernel
theorem dX12_init_101 : decode cX12_init 101 = .ok (.aload_n 0, 1) := by decide +kernel
theorem dX12_init_102 : decode cX12_init 102 = .ok (.bipush 12, 2) := by decide +kernel
theorem dX12_init_104 : decode cX12_init 104 = .ok (.newarray .int, 2) := by decide +kernel
theorem dX12_init_106 : decode cX12_init 106 = .ok (.putfield 48, 3) := by decide +kernel
theorem dX12_init_109 : decode cX12_init 109 = .ok (.aload_n 0, 1) := by decide +kernel
theorem dX12_init_110 : decode cX12_init 110 = .ok (.sipush 240, 3) := by decide +kernel
theorem dX12_init_113 : decode cX12_init 113 = .ok (.newarray .int, 2) := by decide +kernel
theorem dX12_init_115 : decode cX12_init 115 = .ok (.putfield 51, 3) := by decide +kernel
theorem dX12_init_118 : decode cX12_init 118 = .ok (.aload_n 0, 1) := by decide +kernel
theorem dX12_init_119 : decode cX12_init 119 = .ok (.bipush 8, 2) := by decide +kernel
theorem dX12_init_121 : decode cX12_init 121 = .ok (.newarray .int, 2) := by decide +kernel
theorem dX12_init_123 : decode cX12_init 123 = .ok (.putfield 54, 3) := by decide +kernel
theorem dX12_init_126 : decode cX12_init 126 = .ok (.aload_n 0, 1) := by decide +kernel
theorem dX12_init_127 : decode cX12_init 127 = .ok (.bipush 7, 2) := by decide +kernel
theorem dX12_init_129 : decode cX12_init 129 = .ok (.newarray .int, 2) := by decide +kernel
theorem dX12_init_131 : decode cX12_init 131 = .ok (.putfield 57, 3) := by decide +kernel
theorem dX12_init_134 : decode cX12_init 134 = .ok (.aload_n 0, 1) := by decide +kernel
theorem dX12_init_135 : decode cX12_init 135 = .ok (.bipush 7, 2) := by decide +kernel
theorem dX12_init_137 : decode cX12_init 137 = .ok (.newarray .int, 2) := by decide +kernel
theorem dX12_init_139 : decode cX12_init 139 = .ok (.putfield 60, 3) := by decide +kernel
theorem dX12_init_142 : decode cX12_init 142 = .ok (.aload_n 0, 1) := by decide +kernel
theorem dX12_init_143 : decode cX12_init 143 = .ok (.bipush 12, 2) := by decide +kernel
theorem dX12_init_145 : decode cX12_init 145 = .ok (.newarray .int, 2) := by decide +kernel
theorem dX12_init_147 : decode cX12_init 147 = .ok (.putfield 63, 3) := by decide +kernel
theorem dX12_init_150 : decode cX12_init 150 = .ok (.aload_n 0, 1) := by decide +kernel
theorem dX12_init_151 : decode cX12_init 151 = .ok (.bipush 12, 2) := by decide +kernel
theorem dX12_init_153 : decode cX12_init 153 = .ok (.newarray .int, 2) := by decide +kernel
theorem dX12_init_155 : decode cX12_init 155 = .ok (.putfield 66, 3) := by decide +kernel
theorem dX12_init_158 : decode cX12_init 158 = .ok (.aload_n 0, 1) := by decide +kernel
theorem dX12_init_159 : decode cX12_init 159 = .ok (.bipush 10, 2) := by decide +kernel
theorem dX12_init_161 : decode cX12_init 161 = .ok (.newarray .int, 2) := by decide +kernel
theorem dX12_init_163 : decode cX12_init 163 = .ok (.putfield 69, 3) := by decide +kernel
theorem dX12_init_166 : decode cX12_init 166 = .ok (.aload_n 0, 1) := by decide +kernel
theorem dX12_init_167 : decode cX12_init 167 = .ok (.bipush 10, 2) := by decide +kernel
theorem dX12_init_169 : decode cX12_init 169 = .ok (.newarray .int, 2) := by decide +kernel
theorem dX12_init_171 : decode cX12_init 171 = .ok (.putfield 72, 3) := by decide +kernel
theorem dX12_init_174 : decode cX12_init 174 = .ok (.aload_n 0, 1) := by decide +kernel
theorem dX12_init_175 : decode cX12_init 175 = .ok (.sipush 882, 3) := by decide +kernel
theorem dX12_init_178 : decode cX12_init 178 = .ok (.newarray .boolean, 2) := by decide +kernel
theorem dX12_init_180 : decode cX12_init 180 = .ok (.putfield 75, 3) := by decide +kernel
theorem dX12_init_183 : decode cX12_init 183 = .ok (.aload_n 0, 1) := by decide +kernel
theorem dX12_init_184 : decode cX12_init 184 = .ok (.bipush 64, 2) := by decide +kernel
theorem dX12_init_186 : decode cX12_init 186 = .ok (.newarray .int, 2) := by decide +kernel
theorem dX12_init_188 : decode cX12_init 188 = .ok (.putfield 79, 3) := by decide +kernel
theorem dX12_init_191 : decode cX12_init 191 = .ok (.aload_n 0, 1) := by decide +kernel
theorem dX12_init_192 : decode cX12_init 192 = .ok (.iconst 2, 1) := by decide +kernel
theorem dX12_init_193 : decode cX12_init 193 = .ok (.newarray .boolean, 2) := by decide +kernel
theorem dX12_init_195 : decode cX12_init 195 = .ok (.putfield 82, 3) := by decide +kernel
theorem dX12_init_198 : decode cX12_init 198 = .ok (.aload_n 0, 1) := by decide +kernel
theorem dX12_init_199 : decode cX12_init 199 = .ok (.iconst 2, 1) := by decide +kernel
theorem dX12_init_200 : decode cX12_init 200 = .ok (.newarray .int, 2) := by decide +kernel
theorem dX12_init_202 : decode cX12_init 202 = .ok (.putfield 85, 3) := by decide +kernel
theorem dX12_init_205 : decode cX12_init 205 = .ok (.aload_n 0, 1) := by decide +kernel
theorem dX12_init_206 : decode cX12_init 206 = .ok (.getfield 9, 3) := by decide +kernel
theorem dX12_init_209 : decode cX12_init 209 = .ok (.bipush 28, 2) := by decide +kernel
theorem dX12_init_211 : decode cX12_init 211 = .ok (.iconst 5, 1) := by decide +kernel
theorem dX12_init_212 : decode cX12_init 212 = .ok (.iastore, 1) := by decide +kernel
theorem dX12_init_213 : decode cX12_init 213 = .ok (.aload_n 0, 1) := by decide +kernel
theorem dX12_init_214 : decode cX12_init 214 = .ok (.getfield 9, 3) := by decide +kernel
theorem dX12_init_217 : decode cX12_init 217 = .ok (.bipush 29, 2) := by decide +kernel
theorem dX12_init_219 : decode cX12_init 219 = .ok (.bipush 7, 2) := by decide +kernel
theorem dX12_init_221 : decode cX12_init 221 = .ok (.iastore, 1) := by decide +kernel
theorem dX12_init_222 : decode cX12_init 222 = .ok (.return_, 1) := by decide +kernel
theorem dX12_thrown_0 : decode cX12_thrown 0 = .ok (.aload_n 0, 1) := by decide +kernel
theorem dX12_thrown_1 : decode cX12_thrown 1 = .ok (.getfield 88, 3) := by decide +kernel
theorem dX12_thrown_4 : decode cX12_thrown 4 = .ok (.ireturn, 1) := by decide +kernel
theorem dX12_in_0 : decode cX12_in 0 = .ok (.iload_n 0, 1) := by decide +kernel
theorem dX12_in_1 : decode cX12_in 1 = .ok (.iload_n 1, 1) := by decide +kernel
theorem dX12_in_2 : decode cX12_in 2 = .ok (.if_icmp .lt 12, 3) := by decide +kernel
theorem dX12_in_5 : decode cX12_in 5 = .ok (.iload_n 0, 1) := by decide +kernel
theorem dX12_in_6 : decode cX12_in 6 = .ok (.iload_n 2, 1) := by decide +kernel
theorem dX12_in_7 : decode cX12_in 7 = .ok (.if_icmp .gt 7, 3) := by decide +kernel
theorem dX12_in_10 : decode cX12_in 10 = .ok (.iconst 1, 1) := by decide +kernel
theorem dX12_in_11 : decode cX12_in 11 = .ok (.goto 4, 3) := by decide +kernel
theorem dX12_in_14 : decode cX12_in 14 = .ok (.iconst 0, 1) := by decide +kernel
theorem dX12_in_15 : decode cX12_in 15 = .ok (.ireturn, 1) := by decide +kernel
theorem dX12_has_0 : decode cX12_has 0 = .ok (.iload_n 0, 1) := by decide +kernel
theorem dX12_has_1 : decode cX12_has 1 = .ok (.iload_n 1, 1) := by decide +kernel
theorem dX12_has_2 : decode cX12_has 2 = .ok (.ishr, 1) := by decide +kernel
theorem dX12_has_3 : decode cX12_has 3 = .ok (.iconst 1, 1) := by decide +kernel
theorem dX12_has_4 : decode cX12_has 4 = .ok (.iand, 1) := by decide +kernel
theorem dX12_has_5 : decode cX12_has 5 = .ok (.iconst 1, 1) := by decide +kernel
theorem dX12_has_6 : decode cX12_has 6 = .ok (.if_icmp .ne 7, 3) := by decide +kernel
theorem dX12_has_9 : decode cX12_has 9 = .ok (.iconst 1, 1) := by decide +kernel
theorem dX12_has_10 : decode cX12_has 10 = .ok (.goto 4, 3) := by decide +kernel
theorem dX12_has_13 : decode cX12_has 13 = .ok (.iconst 0, 1) := by decide +kernel
theorem dX12_has_14 : decode cX12_has 14 = .ok (.ireturn, 1) := by decide +kernel
theorem dX12_lost_0 : decode cX12_lost 0 = .ok (.aload_n 0, 1) := by decide +kernel
theorem dX12_lost_1 : decode cX12_lost 1 = .ok (.iconst 1, 1) := by decide +kernel
theorem dX12_lost_2 : decode cX12_lost 2 = .ok (.putfield 88, 3) := by decide +kernel
theorem dX12_lost_5 : decode cX12_lost 5 = .ok (.iconst 0, 1) := by decide +kernel
theorem dX12_lost_6 : decode cX12_lost 6 = .ok (.ireturn, 1) := by decide +kernel
theorem dX12_tell_0 : decode cX12_tell 0 = .ok (.aload_n 0, 1) := by decide +kernel
theorem dX12_tell_1 : decode cX12_tell 1 = .ok (.getfield 20, 3) := by decide +kernel
theorem dX12_tell_4 : decode cX12_tell 4 = .ok (.aload_n 0, 1) := by decide +kernel
theorem dX12_tell_5 : decode cX12_tell 5 = .ok (.getfield 92, 3) := by decide +kernel
theorem dX12_tell_8 : decode cX12_tell 8 = .ok (.lload_n 1, 1) := by decide +kernel
theorem dX12_tell_9 : decode cX12_tell 9 = .ok (.lastore, 1) := by decide +kernel
theorem dX12_tell_10 : decode cX12_tell 10 = .ok (.aload_n 0, 1) := by decide +kernel
theorem dX12_tell_11 : decode cX12_tell 11 = .ok (.dup, 1) := by decide +kernel
theorem dX12_tell_12 : decode cX12_tell 12 = .ok (.getfield 92, 3) := by decide +kernel
theorem dX12_tell_15 : decode cX12_tell 15 = .ok (.iconst 1, 1) := by decide +kernel
theorem dX12_tell_16 : decode cX12_tell 16 = .ok (.iadd, 1) := by decide +kernel
theorem dX12_tell_17 : decode cX12_tell 17 = .ok (.putfield 92, 3) := by decide +kernel
theorem dX12_tell_20 : decode cX12_tell 20 = .ok (.return_, 1) := by decide +kernel
theorem dX12_isOne_0 : decode cX12_isOne 0 = .ok (.iload_n 1, 1) := by decide +kernel
theorem dX12_isOne_1 : decode cX12_isOne 1 = .ok (.iconst 0, 1) := by decide +kernel
theorem dX12_isOne_2 : decode cX12_isOne 2 = .ok (.aload_n 0, 1) := by decide +kernel
theorem dX12_isOne_3 : decode cX12_isOne 3 = .ok (.getfield 95, 3) := by decide +kernel
theorem dX12_isOne_6 : decode cX12_isOne 6 = .ok (.iconst 1, 1) := by decide +kernel
theorem dX12_isOne_7 : decode cX12_isOne 7 = .ok (.isub, 1) := by decide +kernel
theorem dX12_isOne_8 : decode cX12_isOne 8 = .ok (.invokestatic 98, 3) := by decide +kernel
theorem dX12_isOne_11 : decode cX12_isOne 11 = .ok (.ireturn, 1) := by decide +kernel
theorem dX12_all_0 : decode cX12_all 0 = .ok (.iconst 1, 1) := by decide +kernel
theorem dX12_all_1 : decode cX12_all 1 = .ok (.aload_n 0, 1) := by decide +kernel
theorem dX12_all_2 : decode cX12_all 2 = .ok (.getfield 95, 3) := by decide +kernel
theorem dX12_all_5 : decode cX12_all 5 = .ok (.ishl, 1) := by decide +kernel
theorem dX12_all_6 : decode cX12_all 6 = .ok (.iconst 1, 1) := by decide +kernel
theorem dX12_all_7 : decode cX12_all 7 = .ok (.isub, 1) := by decide +kernel
theorem dX12_all_8 : decode cX12_all 8 = .ok (.ireturn, 1) := by decide +kernel
theorem dX12_sign_0 : decode cX12_sign 0 = .ok (.aload_n 0, 1) := by decide +kernel
theorem dX12_sign_1 : decode cX12_sign 1 = .ok (.iconst 0, 1) := by decide +kernel
theorem dX12_sign_2 : decode cX12_sign 2 = .ok (.putfield 88, 3) := by decide +kernel
theorem dX12_sign_5 : decode cX12_sign 5 = .ok (.aload_n 0, 1) := by decide +kernel
theorem dX12_sign_6 : decode cX12_sign 6 = .ok (.getfield 102, 3) := by decide +kernel
theorem dX12_sign_9 : decode cX12_sign 9 = .ok (.iconst 4, 1) := by decide +kernel
theorem dX12_sign_10 : decode cX12_sign 10 = .ok (.iadd, 1) := by decide +kernel
theorem dX12_sign_11 : decode cX12_sign 11 = .ok (.bipush 80, 2) := by decide +kernel
theorem dX12_sign_13 : decode cX12_sign 13 = .ok (.if_icmp .le 5, 3) := by decide +kernel
theorem dX12_sign_16 : decode cX12_sign 16 = .ok (.iconst (-1), 1) := by decide +kernel
theorem dX12_sign_17 : decode cX12_sign 17 = .ok (.ireturn, 1) := by decide +kernel
theorem dX12_sign_18 : decode cX12_sign 18 = .ok (.iconst 3, 1) := by decide +kernel
theorem dX12_sign_19 : decode cX12_sign 19 = .ok (.istore_n 2, 1) := by decide +kernel
theorem dX12_sign_20 : decode cX12_sign 20 = .ok (.iload_n 2, 1) := by decide +kernel
theorem dX12_sign_21 : decode cX12_sign 21 = .ok (.ifCond .lt 32, 3) := by decide +kernel
theorem dX12_sign_24 : decode cX12_sign 24 = .ok (.aload_n 0, 1) := by decide +kernel
theorem dX12_sign_25 : decode cX12_sign 25 = .ok (.getfield 16, 3) := by decide +kernel
theorem dX12_sign_28 : decode cX12_sign 28 = .ok (.aload_n 0, 1) := by decide +kernel
theorem dX12_sign_29 : decode cX12_sign 29 = .ok (.dup, 1) := by decide +kernel
theorem dX12_sign_30 : decode cX12_sign 30 = .ok (.getfield 102, 3) := by decide +kernel
theorem dX12_sign_33 : decode cX12_sign 33 = .ok (.dup_x1, 1) := by decide +kernel
theorem dX12_sign_34 : decode cX12_sign 34 = .ok (.iconst 1, 1) := by decide +kernel
theorem dX12_sign_35 : decode cX12_sign 35 = .ok (.iadd, 1) := by decide +kernel
theorem dX12_sign_36 : decode cX12_sign 36 = .ok (.putfield 102, 3) := by decide +kernel
theorem dX12_sign_39 : decode cX12_sign 39 = .ok (.iload_n 1, 1) := by decide +kernel
theorem dX12_sign_40 : decode cX12_sign 40 = .ok (.bipush 8, 2) := by decide +kernel
theorem dX12_sign_42 : decode cX12_sign 42 = .ok (.iload_n 2, 1) := by decide +kernel
theorem dX12_sign_43 : decode cX12_sign 43 = .ok (.imul, 1) := by decide +kernel
theorem dX12_sign_44 : decode cX12_sign 44 = .ok (.ishr, 1) := by decide +kernel
theorem dX12_sign_45 : decode cX12_sign 45 = .ok (.i2b, 1) := by decide +kernel
theorem dX12_sign_46 : decode cX12_sign 46 = .ok (.bastore, 1) := by decide +kernel
theorem dX12_sign_47 : decode cX12_sign 47 = .ok (.iinc 2 (-1), 3) := by decide +kernel
theorem dX12_sign_50 : decode cX12_sign 50 = .ok (.goto (-30), 3) := by decide +kernel
theorem dX12_sign_53 : decode cX12_sign 53 = .ok (.aload_n 0, 1) := by decide +kernel
theorem dX12_sign_54 : decode cX12_sign 54 = .ok (.getfield 102, 3) := by decide +kernel
theorem dX12_sign_57 : decode cX12_sign 57 = .ok (.ireturn, 1) := by decide +kernel
theorem dX12_end_0 : decode cX12_end 0 = .ok (.aload_n 0, 1) := by decide +kernel
theorem dX12_end_1 : decode cX12_end 1 = .ok (.iconst 0, 1) := by decide +kernel
theorem dX12_end_2 : decode cX12_end 2 = .ok (.putfield 88, 3) := by decide +kernel
theorem dX12_end_5 : decode cX12_end 5 = .ok (.iload_n 1, 1) := by decide +kernel
theorem dX12_end_6 : decode cX12_end 6 = .ok (.iconst 0, 1) := by decide +kernel
theorem dX12_end_7 : decode cX12_end 7 = .ok (.aload_n 0, 1) := by decide +kernel
theorem dX12_end_8 : decode cX12_end 8 = .ok (.getfield 102, 3) := by decide +kernel
theorem dX12_end_11 : decode cX12_end 11 = .ok (.invokestatic 98, 3) := by decide +kernel
theorem dX12_end_14 : decode cX12_end 14 = .ok (.ifCond .ne 5, 3) := by decide +kernel
theorem dX12_end_17 : decode cX12_end 17 = .ok (.iconst 0, 1) := by decide +kernel
theorem dX12_end_18 : decode cX12_end 18 = .ok (.ireturn, 1) := by decide +kernel
theorem dX12_end_19 : decode cX12_end 19 = .ok (.aload_n 0, 1) := by decide +kernel
theorem dX12_end_20 : decode cX12_end 20 = .ok (.iload_n 1, 1) := by decide +kernel
theorem dX12_end_21 : decode cX12_end 21 = .ok (.putfield 102, 3) := by decide +kernel
theorem dX12_end_24 : decode cX12_end 24 = .ok (.iconst 1, 1) := by decide +kernel
theorem dX12_end_25 : decode cX12_end 25 = .ok (.ireturn, 1) := by decide +kernel
theorem dX12_begin_0 : decode cX12_begin 0 = .ok (.aload_n 0, 1) := by decide +kernel
theorem dX12_begin_1 : decode cX12_begin 1 = .ok (.aload_n 1, 1) := by decide +kernel
theorem dX12_begin_2 : decode cX12_begin 2 = .ok (.putfield 105, 3) := by decide +kernel
theorem dX12_begin_5 : decode cX12_begin 5 = .ok (.aload_n 0, 1) := by decide +kernel
theorem dX12_begin_6 : decode cX12_begin 6 = .ok (.iload_n 2, 1) := by decide +kernel
theorem dX12_begin_7 : decode cX12_begin 7 = .ok (.putfield 108, 3) := by decide +kernel
theorem dX12_begin_10 : decode cX12_begin 10 = .ok (.aload_n 0, 1) := by decide +kernel
theorem dX12_begin_11 : decode cX12_begin 11 = .ok (.iload_n 3, 1) := by decide +kernel
theorem dX12_begin_12 : decode cX12_begin 12 = .ok (.putfield 111, 3) := by decide +kernel
theorem dX12_begin_15 : decode cX12_begin 15 = .ok (.aload_n 0, 1) := by decide +kernel
theorem dX12_begin_16 : decode cX12_begin 16 = .ok (.iconst 0, 1) := by decide +kernel
theorem dX12_begin_17 : decode cX12_begin 17 = .ok (.putfield 114, 3) := by decide +kernel
theorem dX12_begin_20 : decode cX12_begin 20 = .ok (.aload_n 0, 1) := by decide +kernel
theorem dX12_begin_21 : decode cX12_begin 21 = .ok (.iconst (-1), 1) := by decide +kernel
theorem dX12_begin_22 : decode cX12_begin 22 = .ok (.putfield 117, 3) := by decide +kernel
theorem dX12_begin_25 : decode cX12_begin 25 = .ok (.return_, 1) := by decide +kernel
theorem dX12_beginText_0 : decode cX12_beginText 0 = .ok (.aload_n 0, 1) := by decide +kernel
theorem dX12_beginText_1 : decode cX12_beginText 1 = .ok (.aload_n 0, 1) := by decide +kernel
theorem dX12_beginText_2 : decode cX12_beginText 2 = .ok (.getfield 16, 3) := by decide +kernel
theorem dX12_beginText_5 : decode cX12_beginText 5 = .ok (.aload_n 0, 1) := by decide +kernel
theorem dX12_beginText_6 : decode cX12_beginText 6 = .ok (.getfield 102, 3) := by decide +kernel
theorem dX12_beginText_9 : decode cX12_beginText 9 = .ok (.iload_n 1, 1) := by decide +kernel
theorem dX12_beginText_10 : decode cX12_beginText 10 = .ok (.invokevirtual 120, 3) := by decide +kernel
theorem dX12_beginText_13 : decode cX12_beginText 13 = .ok (.aload_n 0, 1) := by decide +kernel
theorem dX12_beginText_14 : decode cX12_beginText 14 = .ok (.iconst 0, 1) := by decide +kernel
theorem dX12_beginText_15 : decode cX12_beginText 15 = .ok (.putfield 102, 3) := by decide +kernel
theorem dX12_beginText_18 : decode cX12_beginText 18 = .ok (.return_, 1) := by decide +kernel
theorem dX12_here_0 : decode cX12_here 0 = .ok (.aload_n 0, 1) := by decide +kernel
theorem dX12_here_1 : decode cX12_here 1 = .ok (.getfield 114, 3) := by decide +kernel
theorem dX12_here_4 : decode cX12_here 4 = .ok (.aload_n 0, 1) := by decide +kernel
theorem dX12_here_5 : decode cX12_here 5 = .ok (.getfield 108, 3) := by decide +kernel
theorem dX12_here_8 : decode cX12_here 8 = .ok (.if_icmp .ge 30, 3) := by decide +kernel
theorem dX12_here_11 : decode cX12_here 11 = .ok (.aload_n 0, 1) := by decide +kernel
theorem dX12_here_12 : decode cX12_here 12 = .ok (.getfield 114, 3) := by decide +kernel
theorem dX12_here_15 : decode cX12_here 15 = .ok (.aload_n 0, 1) := by decide +kernel
theorem dX12_here_16 : decode cX12_here 16 = .ok (.getfield 111, 3) := by decide +kernel
theorem dX12_here_19 : decode cX12_here 19 = .ok (.if_icmp .ge 19, 3) := by decide +kernel
theorem dX12_here_22 : decode cX12_here 22 = .ok (.aload_n 0, 1) := by decide +kernel
theorem dX12_here_23 : decode cX12_here 23 = .ok (.getfield 105, 3) := by decide +kernel
theorem dX12_here_26 : decode cX12_here 26 = .ok (.aload_n 0, 1) := by decide +kernel
theorem dX12_here_27 : decode cX12_here 27 = .ok (.getfield 114, 3) := by decide +kernel
theorem dX12_here_30 : decode cX12_here 30 = .ok (.baload, 1) := by decide +kernel
theorem dX12_here_31 : decode cX12_here 31 = .ok (.sipush 255, 3) := by decide +kernel
theorem dX12_here_34 : decode cX12_here 34 = .ok (.iand, 1) := by decide +kernel
theorem dX12_here_35 : decode cX12_here 35 = .ok (.goto 4, 3) := by decide +kernel
theorem dX12_here_38 : decode cX12_here 38 = .ok (.iconst (-1), 1) := by decide +kernel
theorem dX12_here_39 : decode cX12_here 39 = .ok (.ireturn, 1) := by decide +kernel
theorem dX12_fine_0 : decode cX12_fine 0 = .ok (.aload_n 0, 1) := by decide +kernel
theorem dX12_fine_1 : decode cX12_fine 1 = .ok (.getfield 117, 3) := by decide +kernel
theorem dX12_fine_4 : decode cX12_fine 4 = .ok (.iconst (-1), 1) := by decide +kernel
theorem dX12_fine_5 : decode cX12_fine 5 = .ok (.if_icmp .ne 7, 3) := by decide +kernel
theorem dX12_fine_8 : decode cX12_fine 8 = .ok (.iconst 1, 1) := by decide +kernel
theorem dX12_fine_9 : decode cX12_fine 9 = .ok (.goto 4, 3) := by decide +kernel
theorem dX12_fine_12 : decode cX12_fine 12 = .ok (.iconst 0, 1) := by decide +kernel
theorem dX12_fine_13 : decode cX12_fine 13 = .ok (.ireturn, 1) := by decide +kernel
theorem dX12_fault_0 : decode cX12_fault 0 = .ok (.aload_n 0, 1) := by decide +kernel
theorem dX12_fault_1 : decode cX12_fault 1 = .ok (.invokevirtual 124, 3) := by decide +kernel
theorem dX12_fault_4 : decode cX12_fault 4 = .ok (.ifCond .eq 8, 3) := by decide +kernel
theorem dX12_fault_7 : decode cX12_fault 7 = .ok (.aload_n 0, 1) := by decide +kernel
theorem dX12_fault_8 : decode cX12_fault 8 = .ok (.iload_n 1, 1) := by decide +kernel
theorem dX12_fault_9 : decode cX12_fault 9 = .ok (.putfield 117, 3) := by decide +kernel
theorem dX12_fault_12 : decode cX12_fault 12 = .ok (.return_, 1) := by decide +kernel
theorem dX12_passes_0 : decode cX12_passes 0 = .ok (.aload_n 0, 1) := by decide +kernel
theorem dX12_passes_1 : decode cX12_passes 1 = .ok (.invokevirtual 124, 3) := by decide +kernel
theorem dX12_passes_4 : decode cX12_passes 4 = .ok (.ifCond .eq 11, 3) := by decide +kernel
theorem dX12_passes_7 : decode cX12_passes 7 = .ok (.aload_n 0, 1) := by decide +kernel
theorem dX12_passes_8 : decode cX12_passes 8 = .ok (.invokevirtual 128, 3) := by decide +kernel
theorem dX12_passes_11 : decode cX12_passes 11 = .ok (.iload_n 1, 1) := by decide +kernel
theorem dX12_passes_12 : decode cX12_passes 12 = .ok (.if_icmp .eq 5, 3) := by decide +kernel
theorem dX12_passes_15 : decode cX12_passes 15 = .ok (.iconst 0, 1) := by decide +kernel
theorem dX12_passes_16 : decode cX12_passes 16 = .ok (.ireturn, 1) := by decide +kernel
theorem dX12_passes_17 : decode cX12_passes 17 = .ok (.aload_n 0, 1) := by decide +kernel
theorem dX12_passes_18 : decode cX12_passes 18 = .ok (.dup, 1) := by decide +kernel
theorem dX12_passes_19 : decode cX12_passes 19 = .ok (.getfield 114, 3) := by decide +kernel
theorem dX12_passes_22 : decode cX12_passes 22 = .ok (.iconst 1, 1) := by decide +kernel
theorem dX12_passes_23 : decode cX12_passes 23 = .ok (.iadd, 1) := by decide +kernel
theorem dX12_passes_24 : decode cX12_passes 24 = .ok (.putfield 114, 3) := by decide +kernel
theorem dX12_passes_27 : decode cX12_passes 27 = .ok (.iconst 1, 1) := by decide +kernel
theorem dX12_passes_28 : decode cX12_passes 28 = .ok (.ireturn, 1) := by decide +kernel
theorem dX12_need_0 : decode cX12_need 0 = .ok (.aload_n 0, 1) := by decide +kernel
theorem dX12_need_1 : decode cX12_need 1 = .ok (.iload_n 1, 1) := by decide +kernel
theorem dX12_need_2 : decode cX12_need 2 = .ok (.invokevirtual 132, 3) := by decide +kernel
theorem dX12_need_5 : decode cX12_need 5 = .ok (.ifCond .ne 11, 3) := by decide +kernel
theorem dX12_need_8 : decode cX12_need 8 = .ok (.aload_n 0, 1) := by decide +kernel
theorem dX12_need_9 : decode cX12_need 9 = .ok (.aload_n 0, 1) := by decide +kernel
theorem dX12_need_10 : decode cX12_need 10 = .ok (.getfield 114, 3) := by decide +kernel
theorem dX12_need_13 : decode cX12_need 13 = .ok (.invokevirtual 136, 3) := by decide +kernel
theorem dX12_need_16 : decode cX12_need 16 = .ok (.return_, 1) := by decide +kernel
theorem dX12_oneOf_0 : decode cX12_oneOf 0 = .ok (.aload_n 0, 1) := by decide +kernel
theorem dX12_oneOf_1 : decode cX12_oneOf 1 = .ok (.invokevirtual 124, 3) := by decide +kernel
theorem dX12_oneOf_4 : decode cX12_oneOf 4 = .ok (.ifCond .ne 5, 3) := by decide +kernel
theorem dX12_oneOf_7 : decode cX12_oneOf 7 = .ok (.iconst 0, 1) := by decide +kernel
theorem dX12_oneOf_8 : decode cX12_oneOf 8 = .ok (.ireturn, 1) := by decide +kernel
theorem dX12_oneOf_9 : decode cX12_oneOf 9 = .ok (.aload_n 0, 1) := by decide +kernel
theorem dX12_oneOf_10 : decode cX12_oneOf 10 = .ok (.invokevirtual 128, 3) := by decide +kernel
theorem dX12_oneOf_13 : decode cX12_oneOf 13 = .ok (.iload_n 1, 1) := by decide +kernel
theorem dX12_oneOf_14 : decode cX12_oneOf 14 = .ok (.iload_n 1, 1) := by decide +kernel
theorem dX12_oneOf_15 : decode cX12_oneOf 15 = .ok (.iload_n 2, 1) := by decide +kernel
theorem dX12_oneOf_16 : decode cX12_oneOf 16 = .ok (.iadd, 1) := by decide +kernel
theorem dX12_oneOf_17 : decode cX12_oneOf 17 = .ok (.iconst 1, 1) := by decide +kernel
theorem dX12_oneOf_18 : decode cX12_oneOf 18 = .ok (.isub, 1) := by decide +kernel
theorem dX12_oneOf_19 : decode cX12_oneOf 19 = .ok (.invokestatic 98, 3) := by decide +kernel
theorem dX12_oneOf_22 : decode cX12_oneOf 22 = .ok (.ifCond .ne 13, 3) := by decide +kernel
theorem dX12_oneOf_25 : decode cX12_oneOf 25 = .ok (.aload_n 0, 1) := by decide +kernel
theorem dX12_oneOf_26 : decode cX12_oneOf 26 = .ok (.aload_n 0, 1) := by decide +kernel
theorem dX12_oneOf_27 : decode cX12_oneOf 27 = .ok (.getfield 114, 3) := by decide +kernel
theorem dX12_oneOf_30 : decode cX12_oneOf 30 = .ok (.invokevirtual 136, 3) := by decide +kernel
theorem dX12_oneOf_33 : decode cX12_oneOf 33 = .ok (.iconst 0, 1) := by decide +kernel
theorem dX12_oneOf_34 : decode cX12_oneOf 34 = .ok (.ireturn, 1) := by decide +kernel
theorem dX12_oneOf_35 : decode cX12_oneOf 35 = .ok (.aload_n 0, 1) := by decide +kernel
theorem dX12_oneOf_36 : decode cX12_oneOf 36 = .ok (.dup, 1) := by decide +kernel
theorem dX12_oneOf_37 : decode cX12_oneOf 37 = .ok (.getfield 114, 3) := by decide +kernel
theorem dX12_oneOf_40 : decode cX12_oneOf 40 = .ok (.iconst 1, 1) := by decide +kernel
theorem dX12_oneOf_41 : decode cX12_oneOf 41 = .ok (.iadd, 1) := by decide +kernel
theorem dX12_oneOf_42 : decode cX12_oneOf 42 = .ok (.putfield 114, 3) := by decide +kernel
theorem dX12_oneOf_45 : decode cX12_oneOf 45 = .ok (.aload_n 0, 1) := by decide +kernel
theorem dX12_oneOf_46 : decode cX12_oneOf 46 = .ok (.getfield 105, 3) := by decide +kernel
theorem dX12_oneOf_49 : decode cX12_oneOf 49 = .ok (.aload_n 0, 1) := by decide +kernel
theorem dX12_oneOf_50 : decode cX12_oneOf 50 = .ok (.getfield 114, 3) := by decide +kernel
theorem dX12_oneOf_53 : decode cX12_oneOf 53 = .ok (.iconst 1, 1) := by decide +kernel
theorem dX12_oneOf_54 : decode cX12_oneOf 54 = .ok (.isub, 1) := by decide +kernel
theorem dX12_oneOf_55 : decode cX12_oneOf 55 = .ok (.baload, 1) := by decide +kernel
theorem dX12_oneOf_56 : decode cX12_oneOf 56 = .ok (.iload_n 1, 1) := by decide +kernel
theorem dX12_oneOf_57 : decode cX12_oneOf 57 = .ok (.isub, 1) := by decide +kernel
theorem dX12_oneOf_58 : decode cX12_oneOf 58 = .ok (.ireturn, 1) := by decide +kernel
theorem dX12_number_0 : decode cX12_number 0 = .ok (.aload_n 0, 1) := by decide +kernel
theorem dX12_number_1 : decode cX12_number 1 = .ok (.bipush 48, 2) := by decide +kernel
theorem dX12_number_3 : decode cX12_number 3 = .ok (.bipush 10, 2) := by decide +kernel
theorem dX12_number_5 : decode cX12_number 5 = .ok (.invokevirtual 140, 3) := by decide +kernel
theorem dX12_number_8 : decode cX12_number 8 = .ok (.istore_n 2, 1) := by decide +kernel
theorem dX12_number_9 : decode cX12_number 9 = .ok (.iconst 1, 1) := by decide +kernel
theorem dX12_number_10 : decode cX12_number 10 = .ok (.istore_n 3, 1) := by decide +kernel
theorem dX12_number_11 : decode cX12_number 11 = .ok (.iload_n 3, 1) := by decide +kernel
theorem dX12_number_12 : decode cX12_number 12 = .ok (.iload_n 1, 1) := by decide +kernel
theorem dX12_number_13 : decode cX12_number 13 = .ok (.if_icmp .ge 44, 3) := by decide +kernel
theorem dX12_number_16 : decode cX12_number 16 = .ok (.aload_n 0, 1) := by decide +kernel
theorem dX12_number_17 : decode cX12_number 17 = .ok (.invokevirtual 124, 3) := by decide +kernel
theorem dX12_number_20 : decode cX12_number 20 = .ok (.ifCond .eq 37, 3) := by decide +kernel
theorem dX12_number_23 : decode cX12_number 23 = .ok (.aload_n 0, 1) := by decide +kernel
theorem dX12_number_24 : decode cX12_number 24 = .ok (.invokevirtual 128, 3) := by decide +kernel
theorem dX12_number_27 : decode cX12_number 27 = .ok (.bipush 48, 2) := by decide +kernel
theorem dX12_number_29 : decode cX12_number 29 = .ok (.bipush 57, 2) := by decide +kernel
theorem dX12_number_31 : decode cX12_number 31 = .ok (.invokestatic 98, 3) := by decide +kernel
theorem dX12_number_34 : decode cX12_number 34 = .ok (.ifCond .eq 23, 3) := by decide +kernel
theorem dX12_number_37 : decode cX12_number 37 = .ok (.bipush 10, 2) := by decide +kernel
theorem dX12_number_39 : decode cX12_number 39 = .ok (.iload_n 2, 1) := by decide +kernel
theorem dX12_number_40 : decode cX12_number 40 = .ok (.imul, 1) := by decide +kernel
theorem dX12_number_41 : decode cX12_number 41 = .ok (.aload_n 0, 1) := by decide +kernel
theorem dX12_number_42 : decode cX12_number 42 = .ok (.bipush 48, 2) := by decide +kernel
theorem dX12_number_44 : decode cX12_number 44 = .ok (.bipush 10, 2) := by decide +kernel
theorem dX12_number_46 : decode cX12_number 46 = .ok (.invokevirtual 140, 3) := by decide +kernel
theorem dX12_number_49 : decode cX12_number 49 = .ok (.iadd, 1) := by decide +kernel
theorem dX12_number_50 : decode cX12_number 50 = .ok (.istore_n 2, 1) := by decide +kernel
theorem dX12_number_51 : decode cX12_number 51 = .ok (.iinc 3 1, 3) := by decide +kernel
theorem dX12_number_54 : decode cX12_number 54 = .ok (.goto (-43), 3) := by decide +kernel
theorem dX12_number_57 : decode cX12_number 57 = .ok (.iload_n 2, 1) := by decide +kernel
theorem dX12_number_58 : decode cX12_number 58 = .ok (.ireturn, 1) := by decide +kernel
theorem dX12_wasRight_0 : decode cX12_wasRight 0 = .ok (.aload_n 0, 1) := by decide +kernel
theorem dX12_wasRight_1 : decode cX12_wasRight 1 = .ok (.getfield 114, 3) := by decide +kernel
theorem dX12_wasRight_4 : decode cX12_wasRight 4 = .ok (.aload_n 0, 1) := by decide +kernel
theorem dX12_wasRight_5 : decode cX12_wasRight 5 = .ok (.getfield 108, 3) := by decide +kernel
theorem dX12_wasRight_8 : decode cX12_wasRight 8 = .ok (.if_icmp .ge 11, 3) := by decide +kernel
theorem dX12_wasRight_11 : decode cX12_wasRight 11 = .ok (.aload_n 0, 1) := by decide +kernel
theorem dX12_wasRight_12 : decode cX12_wasRight 12 = .ok (.aload_n 0, 1) := by decide +kernel
theorem dX12_wasRight_13 : decode cX12_wasRight 13 = .ok (.getfield 114, 3) := by decide +kernel
theorem dX12_wasRight_16 : decode cX12_wasRight 16 = .ok (.invokevirtual 136, 3) := by decide +kernel
theorem dX12_wasRight_19 : decode cX12_wasRight 19 = .ok (.aload_n 0, 1) := by decide +kernel
theorem dX12_wasRight_20 : decode cX12_wasRight 20 = .ok (.invokevirtual 124, 3) := by decide +kernel
theorem dX12_wasRight_23 : decode cX12_wasRight 23 = .ok (.ireturn, 1) := by decide +kernel
theorem dX12_climbers_0 : decode cX12_climbers 0 = .ok (.aload_n 0, 1) := by decide +kernel
theorem dX12_climbers_1 : decode cX12_climbers 1 = .ok (.iconst 0, 1) := by decide +kernel
theorem dX12_climbers_2 : decode cX12_climbers 2 = .ok (.putfield 88, 3) := by decide +kernel
theorem dX12_climbers_5 : decode cX12_climbers 5 = .ok (.aload_n 0, 1) := by decide +kernel
theorem dX12_climbers_6 : decode cX12_climbers 6 = .ok (.bipush 13, 2) := by decide +kernel
theorem dX12_climbers_8 : decode cX12_climbers 8 = .ok (.invokevirtual 144, 3) := by decide +kernel
theorem dX12_climbers_11 : decode cX12_climbers 11 = .ok (.aload_n 0, 1) := by decide +kernel
theorem dX12_climbers_12 : decode cX12_climbers 12 = .ok (.getfield 108, 3) := by decide +kernel
theorem dX12_climbers_15 : decode cX12_climbers 15 = .ok (.ifCond .ne 5, 3) := by decide +kernel
theorem dX12_climbers_18 : decode cX12_climbers 18 = .ok (.iconst 0, 1) := by decide +kernel
theorem dX12_climbers_19 : decode cX12_climbers 19 = .ok (.ireturn, 1) := by decide +kernel
theorem dX12_climbers_20 : decode cX12_climbers 20 = .ok (.iconst 0, 1) := by decide +kernel
theorem dX12_climbers_21 : decode cX12_climbers 21 = .ok (.istore_n 1, 1) := by decide +kernel
theorem dX12_climbers_22 : decode cX12_climbers 22 = .ok (.iconst 1, 1) := by decide +kernel
theorem dX12_climbers_23 : decode cX12_climbers 23 = .ok (.istore_n 2, 1) := by decide +kernel
theorem dX12_climbers_24 : decode cX12_climbers 24 = .ok (.iload_n 2, 1) := by decide +kernel
theorem dX12_climbers_25 : decode cX12_climbers 25 = .ok (.ifCond .eq 59, 3) := by decide +kernel
theorem dX12_climbers_28 : decode cX12_climbers 28 = .ok (.aload_n 0, 1) := by decide +kernel
theorem dX12_climbers_29 : decode cX12_climbers 29 = .ok (.invokevirtual 124, 3) := by decide +kernel
theorem dX12_climbers_32 : decode cX12_climbers 32 = .ok (.ifCond .eq 52, 3) := by decide +kernel
theorem dX12_climbers_35 : decode cX12_climbers 35 = .ok (.aload_n 0, 1) := by decide +kernel
theorem dX12_climbers_36 : decode cX12_climbers 36 = .ok (.getfield 95, 3) := by decide +kernel
theorem dX12_climbers_39 : decode cX12_climbers 39 = .ok (.iload_n 1, 1) := by decide +kernel
theorem dX12_climbers_40 : decode cX12_climbers 40 = .ok (.iadd, 1) := by decide +kernel
theorem dX12_climbers_41 : decode cX12_climbers 41 = .ok (.bipush 7, 2) := by decide +kernel
theorem dX12_climbers_43 : decode cX12_climbers 43 = .ok (.if_icmp .ne 14, 3) := by decide +kernel
theorem dX12_climbers_46 : decode cX12_climbers 46 = .ok (.aload_n 0, 1) := by decide +kernel
theorem dX12_climbers_47 : decode cX12_climbers 47 = .ok (.aload_n 0, 1) := by decide +kernel
theorem dX12_climbers_48 : decode cX12_climbers 48 = .ok (.getfield 114, 3) := by decide +kernel
theorem dX12_climbers_51 : decode cX12_climbers 51 = .ok (.invokevirtual 136, 3) := by decide +kernel
theorem dX12_climbers_54 : decode cX12_climbers 54 = .ok (.goto 17, 3) := by decide +kernel
theorem dX12_climbers_57 : decode cX12_climbers 57 = .ok (.aload_n 0, 1) := by decide +kernel
theorem dX12_climbers_58 : decode cX12_climbers 58 = .ok (.getfield 24, 3) := by decide +kernel
theorem dX12_climbers_61 : decode cX12_climbers 61 = .ok (.iload_n 1, 1) := by decide +kernel
theorem dX12_climbers_62 : decode cX12_climbers 62 = .ok (.aload_n 0, 1) := by decide +kernel
theorem dX12_climbers_63 : decode cX12_climbers 63 = .ok (.bipush 48, 2) := by decide +kernel
theorem dX12_climbers_65 : decode cX12_climbers 65 = .ok (.bipush 10, 2) := by decide +kernel
theorem dX12_climbers_67 : decode cX12_climbers 67 = .ok (.invokevirtual 140, 3) := by decide +kernel
theorem dX12_climbers_70 : decode cX12_climbers 70 = .ok (.iastore, 1) := by decide +kernel
theorem dX12_climbers_71 : decode cX12_climbers 71 = .ok (.iinc 1 1, 3) := by decide +kernel
theorem dX12_climbers_74 : decode cX12_climbers 74 = .ok (.aload_n 0, 1) := by decide +kernel
theorem dX12_climbers_75 : decode cX12_climbers 75 = .ok (.bipush 59, 2) := by decide +kernel
theorem dX12_climbers_77 : decode cX12_climbers 77 = .ok (.invokevirtual 132, 3) := by decide +kernel
theorem dX12_climbers_80 : decode cX12_climbers 80 = .ok (.istore_n 2, 1) := by decide +kernel
theorem dX12_climbers_81 : decode cX12_climbers 81 = .ok (.goto (-57), 3) := by decide +kernel
theorem dX12_climbers_84 : decode cX12_climbers 84 = .ok (.aload_n 0, 1) := by decide +kernel
theorem dX12_climbers_85 : decode cX12_climbers 85 = .ok (.invokevirtual 147, 3) := by decide +kernel
theorem dX12_climbers_88 : decode cX12_climbers 88 = .ok (.ifCond .ne 10, 3) := by decide +kernel
theorem dX12_climbers_91 : decode cX12_climbers 91 = .ok (.iconst (-1), 1) := by decide +kernel
theorem dX12_climbers_92 : decode cX12_climbers 92 = .ok (.aload_n 0, 1) := by decide +kernel
theorem dX12_climbers_93 : decode cX12_climbers 93 = .ok (.getfield 117, 3) := by decide +kernel
theorem dX12_climbers_96 : decode cX12_climbers 96 = .ok (.isub, 1) := by decide +kernel
theorem dX12_climbers_97 : decode cX12_climbers 97 = .ok (.ireturn, 1) := by decide +kernel
theorem dX12_climbers_98 : decode cX12_climbers 98 = .ok (.iconst 0, 1) := by decide +kernel
theorem dX12_climbers_99 : decode cX12_climbers 99 = .ok (.istore_n 3, 1) := by decide +kernel
theorem dX12_climbers_100 : decode cX12_climbers 100 = .ok (.iload_n 3, 1) := by decide +kernel
theorem dX12_climbers_101 : decode cX12_climbers 101 = .ok (.iload_n 1, 1) := by decide +kernel
theorem dX12_climbers_102 : decode cX12_climbers 102 = .ok (.if_icmp .ge 83, 3) := by decide +kernel
theorem dX12_climbers_105 : decode cX12_climbers 105 = .ok (.aload_n 0, 1) := by decide +kernel
theorem dX12_climbers_106 : decode cX12_climbers 106 = .ok (.getfield 13, 3) := by decide +kernel
theorem dX12_climbers_109 : decode cX12_climbers 109 = .ok (.aload_n 0, 1) := by decide +kernel
theorem dX12_climbers_110 : decode cX12_climbers 110 = .ok (.getfield 95, 3) := by decide +kernel
theorem dX12_climbers_113 : decode cX12_climbers 113 = .ok (.aload_n 0, 1) := by decide +kernel
theorem dX12_climbers_114 : decode cX12_climbers 114 = .ok (.getfield 24, 3) := by decide +kernel
theorem dX12_climbers_117 : decode cX12_climbers 117 = .ok (.iload_n 3, 1) := by decide +kernel
theorem dX12_climbers_118 : decode cX12_climbers 118 = .ok (.iaload, 1) := by decide +kernel
theorem dX12_climbers_119 : decode cX12_climbers 119 = .ok (.iastore, 1) := by decide +kernel
theorem dX12_climbers_120 : decode cX12_climbers 120 = .ok (.aload_n 0, 1) := by decide +kernel
theorem dX12_climbers_121 : decode cX12_climbers 121 = .ok (.getfield 9, 3) := by decide +kernel
theorem dX12_climbers_124 : decode cX12_climbers 124 = .ok (.aload_n 0, 1) := by decide +kernel
theorem dX12_climbers_125 : decode cX12_climbers 125 = .ok (.getfield 95, 3) := by decide +kernel
theorem dX12_climbers_128 : decode cX12_climbers 128 = .ok (.iconst 0, 1) := by decide +kernel
theorem dX12_climbers_129 : decode cX12_climbers 129 = .ok (.iastore, 1) := by decide +kernel
theorem dX12_climbers_130 : decode cX12_climbers 130 = .ok (.aload_n 0, 1) := by decide +kernel
theorem dX12_climbers_131 : decode cX12_climbers 131 = .ok (.getfield 9, 3) := by decide +kernel
theorem dX12_climbers_134 : decode cX12_climbers 134 = .ok (.bipush 7, 2) := by decide +kernel
theorem dX12_climbers_136 : decode cX12_climbers 136 = .ok (.aload_n 0, 1) := by decide +kernel
theorem dX12_climbers_137 : decode cX12_climbers 137 = .ok (.getfield 95, 3) := by decide +kernel
theorem dX12_climbers_140 : decode cX12_climbers 140 = .ok (.iadd, 1) := by decide +kernel
theorem dX12_climbers_141 : decode cX12_climbers 141 = .ok (.iconst 0, 1) := by decide +kernel
theorem dX12_climbers_142 : decode cX12_climbers 142 = .ok (.iastore, 1) := by decide +kernel
theorem dX12_climbers_143 : decode cX12_climbers 143 = .ok (.aload_n 0, 1) := by decide +kernel
theorem dX12_climbers_144 : decode cX12_climbers 144 = .ok (.getfield 9, 3) := by decide +kernel
theorem dX12_climbers_147 : decode cX12_climbers 147 = .ok (.bipush 14, 2) := by decide +kernel
theorem dX12_climbers_149 : decode cX12_climbers 149 = .ok (.aload_n 0, 1) := by decide +kernel
theorem dX12_climbers_150 : decode cX12_climbers 150 = .ok (.getfield 95, 3) := by decide +kernel
theorem dX12_climbers_153 : decode cX12_climbers 153 = .ok (.iadd, 1) := by decide +kernel
theorem dX12_climbers_154 : decode cX12_climbers 154 = .ok (.iconst 0, 1) := by decide +kernel
theorem dX12_climbers_155 : decode cX12_climbers 155 = .ok (.iastore, 1) := by decide +kernel
theorem dX12_climbers_156 : decode cX12_climbers 156 = .ok (.aload_n 0, 1) := by decide +kernel
theorem dX12_climbers_157 : decode cX12_climbers 157 = .ok (.getfield 9, 3) := by decide +kernel
theorem dX12_climbers_160 : decode cX12_climbers 160 = .ok (.bipush 21, 2) := by decide +kernel
theorem dX12_climbers_162 : decode cX12_climbers 162 = .ok (.aload_n 0, 1) := by decide +kernel
theorem dX12_climbers_163 : decode cX12_climbers 163 = .ok (.getfield 95, 3) := by decide +kernel
theorem dX12_climbers_166 : decode cX12_climbers 166 = .ok (.iadd, 1) := by decide +kernel
theorem dX12_climbers_167 : decode cX12_climbers 167 = .ok (.iconst 0, 1) := by decide +kernel
theorem dX12_climbers_168 : decode cX12_climbers 168 = .ok (.iastore, 1) := by decide +kernel
theorem dX12_climbers_169 : decode cX12_climbers 169 = .ok (.aload_n 0, 1) := by decide +kernel
theorem dX12_climbers_170 : decode cX12_climbers 170 = .ok (.dup, 1) := by decide +kernel
theorem dX12_climbers_171 : decode cX12_climbers 171 = .ok (.getfield 95, 3) := by decide +kernel
theorem dX12_climbers_174 : decode cX12_climbers 174 = .ok (.iconst 1, 1) := by decide +kernel
theorem dX12_climbers_175 : decode cX12_climbers 175 = .ok (.iadd, 1) := by decide +kernel
theorem dX12_climbers_176 : decode cX12_climbers 176 = .ok (.putfield 95, 3) := by decide +kernel
theorem dX12_climbers_179 : decode cX12_climbers 179 = .ok (.iinc 3 1, 3) := by decide +kernel
theorem dX12_climbers_182 : decode cX12_climbers 182 = .ok (.goto (-82), 3) := by decide +kernel
theorem dX12_climbers_185 : decode cX12_climbers 185 = .ok (.aload_n 0, 1) := by decide +kernel
theorem dX12_climbers_186 : decode cX12_climbers 186 = .ok (.iconst 0, 1) := by decide +kernel
theorem dX12_climbers_187 : decode cX12_climbers 187 = .ok (.putfield 150, 3) := by decide +kernel
theorem dX12_climbers_190 : decode cX12_climbers 190 = .ok (.aload_n 0, 1) := by decide +kernel
theorem dX12_climbers_191 : decode cX12_climbers 191 = .ok (.dup, 1) := by decide +kernel
theorem dX12_climbers_192 : decode cX12_climbers 192 = .ok (.getfield 153, 3) := by decide +kernel
theorem dX12_climbers_195 : decode cX12_climbers 195 = .ok (.iconst 1, 1) := by decide +kernel
theorem dX12_climbers_196 : decode cX12_climbers 196 = .ok (.iadd, 1) := by decide +kernel
theorem dX12_climbers_197 : decode cX12_climbers 197 = .ok (.putfield 153, 3) := by decide +kernel
theorem dX12_climbers_200 : decode cX12_climbers 200 = .ok (.iload_n 1, 1) := by decide +kernel
theorem dX12_climbers_201 : decode cX12_climbers 201 = .ok (.ireturn, 1) := by decide +kernel
theorem dX12_held_0 : decode cX12_held 0 = .ok (.aload_n 0, 1) := by decide +kernel
theorem dX12_held_1 : decode cX12_held 1 = .ok (.iload_n 1, 1) := by decide +kernel
theorem dX12_held_2 : decode cX12_held 2 = .ok (.invokevirtual 156, 3) := by decide +kernel
theorem dX12_held_5 : decode cX12_held 5 = .ok (.istore_n 2, 1) := by decide +kernel
theorem dX12_held_6 : decode cX12_held 6 = .ok (.aload_n 0, 1) := by decide +kernel
theorem dX12_held_7 : decode cX12_held 7 = .ok (.bipush 60, 2) := by decide +kernel
theorem dX12_held_9 : decode cX12_held 9 = .ok (.invokevirtual 132, 3) := by decide +kernel
theorem dX12_held_12 : decode cX12_held 12 = .ok (.ifCond .eq 18, 3) := by decide +kernel
theorem dX12_held_15 : decode cX12_held 15 = .ok (.iload_n 2, 1) := by decide +kernel
theorem dX12_held_16 : decode cX12_held 16 = .ok (.aload_n 0, 1) := by decide +kernel
theorem dX12_held_17 : decode cX12_held 17 = .ok (.iload_n 1, 1) := by decide +kernel
theorem dX12_held_18 : decode cX12_held 18 = .ok (.invokevirtual 156, 3) := by decide +kernel
theorem dX12_held_21 : decode cX12_held 21 = .ok (.if_icmp .ge 7, 3) := by decide +kernel
theorem dX12_held_24 : decode cX12_held 24 = .ok (.iconst 1, 1) := by decide +kernel
theorem dX12_held_25 : decode cX12_held 25 = .ok (.goto 4, 3) := by decide +kernel
theorem dX12_held_28 : decode cX12_held 28 = .ok (.iconst 0, 1) := by decide +kernel
theorem dX12_held_29 : decode cX12_held 29 = .ok (.ireturn, 1) := by decide +kernel
theorem dX12_held_30 : decode cX12_held 30 = .ok (.aload_n 0, 1) := by decide +kernel
theorem dX12_held_31 : decode cX12_held 31 = .ok (.bipush 62, 2) := by decide +kernel
theorem dX12_held_33 : decode cX12_held 33 = .ok (.invokevirtual 132, 3) := by decide +kernel
theorem dX12_held_36 : decode cX12_held 36 = .ok (.ifCond .eq 18, 3) := by decide +kernel
theorem dX12_held_39 : decode cX12_held 39 = .ok (.iload_n 2, 1) := by decide +kernel
theorem dX12_held_40 : decode cX12_held 40 = .ok (.aload_n 0, 1) := by decide +kernel
theorem dX12_held_41 : decode cX12_held 41 = .ok (.iload_n 1, 1) := by decide +kernel
theorem dX12_held_42 : decode cX12_held 42 = .ok (.invokevirtual 156, 3) := by decide +kernel
theorem dX12_held_45 : decode cX12_held 45 = .ok (.if_icmp .le 7, 3) := by decide +kernel
theorem dX12_held_48 : decode cX12_held 48 = .ok (.iconst 1, 1) := by decide +kernel
theorem dX12_held_49 : decode cX12_held 49 = .ok (.goto 4, 3) := by decide +kernel
theorem dX12_held_52 : decode cX12_held 52 = .ok (.iconst 0, 1) := by decide +kernel
theorem dX12_held_53 : decode cX12_held 53 = .ok (.ireturn, 1) := by decide +kernel
theorem dX12_held_54 : decode cX12_held 54 = .ok (.aload_n 0, 1) := by decide +kernel
theorem dX12_held_55 : decode cX12_held 55 = .ok (.bipush 61, 2) := by decide +kernel
theorem dX12_held_57 : decode cX12_held 57 = .ok (.invokevirtual 132, 3) := by decide +kernel
theorem dX12_held_60 : decode cX12_held 60 = .ok (.ifCond .eq 18, 3) := by decide +kernel
theorem dX12_held_63 : decode cX12_held 63 = .ok (.iload_n 2, 1) := by decide +kernel
theorem dX12_held_64 : decode cX12_held 64 = .ok (.aload_n 0, 1) := by decide +kernel
theorem dX12_held_65 : decode cX12_held 65 = .ok (.iload_n 1, 1) := by decide +kernel
theorem dX12_held_66 : decode cX12_held 66 = .ok (.invokevirtual 156, 3) := by decide +kernel
theorem dX12_held_69 : decode cX12_held 69 = .ok (.if_icmp .ne 7, 3) := by decide +kernel
theorem dX12_held_72 : decode cX12_held 72 = .ok (.iconst 1, 1) := by decide +kernel
theorem dX12_held_73 : decode cX12_held 73 = .ok (.goto 4, 3) := by decide +kernel
theorem dX12_held_76 : decode cX12_held 76 = .ok (.iconst 0, 1) := by decide +kernel
theorem dX12_held_77 : decode cX12_held 77 = .ok (.ireturn, 1) := by decide +kernel
theorem dX12_held_78 : decode cX12_held 78 = .ok (.iload_n 2, 1) := by decide +kernel
theorem dX12_held_79 : decode cX12_held 79 = .ok (.ireturn, 1) := by decide +kernel
theorem dX12_sum_0 : decode cX12_sum 0 = .ok (.aload_n 0, 1) := by decide +kernel
theorem dX12_sum_1 : decode cX12_sum 1 = .ok (.iload_n 1, 1) := by decide +kernel
theorem dX12_sum_2 : decode cX12_sum 2 = .ok (.invokevirtual 160, 3) := by decide +kernel
theorem dX12_sum_5 : decode cX12_sum 5 = .ok (.istore_n 2, 1) := by decide +kernel
theorem dX12_sum_6 : decode cX12_sum 6 = .ok (.aload_n 0, 1) := by decide +kernel
theorem dX12_sum_7 : decode cX12_sum 7 = .ok (.invokevirtual 124, 3) := by decide +kernel
theorem dX12_sum_10 : decode cX12_sum 10 = .ok (.ifCond .eq 72, 3) := by decide +kernel
theorem dX12_sum_13 : decode cX12_sum 13 = .ok (.aload_n 0, 1) := by decide +kernel
theorem dX12_sum_14 : decode cX12_sum 14 = .ok (.invokevirtual 128, 3) := by decide +kernel
theorem dX12_sum_17 : decode cX12_sum 17 = .ok (.bipush 43, 2) := by decide +kernel
theorem dX12_sum_19 : decode cX12_sum 19 = .ok (.if_icmp .eq 12, 3) := by decide +kernel
theorem dX12_sum_22 : decode cX12_sum 22 = .ok (.aload_n 0, 1) := by decide +kernel
theorem dX12_sum_23 : decode cX12_sum 23 = .ok (.invokevirtual 128, 3) := by decide +kernel
theorem dX12_sum_26 : decode cX12_sum 26 = .ok (.bipush 45, 2) := by decide +kernel
theorem dX12_sum_28 : decode cX12_sum 28 = .ok (.if_icmp .ne 54, 3) := by decide +kernel
theorem dX12_sum_31 : decode cX12_sum 31 = .ok (.aload_n 0, 1) := by decide +kernel
theorem dX12_sum_32 : decode cX12_sum 32 = .ok (.invokevirtual 128, 3) := by decide +kernel
theorem dX12_sum_35 : decode cX12_sum 35 = .ok (.bipush 43, 2) := by decide +kernel
theorem dX12_sum_37 : decode cX12_sum 37 = .ok (.if_icmp .ne 7, 3) := by decide +kernel
theorem dX12_sum_40 : decode cX12_sum 40 = .ok (.iconst 1, 1) := by decide +kernel
theorem dX12_sum_41 : decode cX12_sum 41 = .ok (.goto 4, 3) := by decide +kernel
theorem dX12_sum_44 : decode cX12_sum 44 = .ok (.iconst 0, 1) := by decide +kernel
theorem dX12_sum_45 : decode cX12_sum 45 = .ok (.istore_n 3, 1) := by decide +kernel
theorem dX12_sum_46 : decode cX12_sum 46 = .ok (.aload_n 0, 1) := by decide +kernel
theorem dX12_sum_47 : decode cX12_sum 47 = .ok (.dup, 1) := by decide +kernel
theorem dX12_sum_48 : decode cX12_sum 48 = .ok (.getfield 114, 3) := by decide +kernel
theorem dX12_sum_51 : decode cX12_sum 51 = .ok (.iconst 1, 1) := by decide +kernel
theorem dX12_sum_52 : decode cX12_sum 52 = .ok (.iadd, 1) := by decide +kernel
theorem dX12_sum_53 : decode cX12_sum 53 = .ok (.putfield 114, 3) := by decide +kernel
theorem dX12_sum_56 : decode cX12_sum 56 = .ok (.aload_n 0, 1) := by decide +kernel
theorem dX12_sum_57 : decode cX12_sum 57 = .ok (.iload_n 1, 1) := by decide +kernel
theorem dX12_sum_58 : decode cX12_sum 58 = .ok (.invokevirtual 160, 3) := by decide +kernel
theorem dX12_sum_61 : decode cX12_sum 61 = .ok (.istore 4, 2) := by decide +kernel
theorem dX12_sum_63 : decode cX12_sum 63 = .ok (.iload_n 3, 1) := by decide +kernel
theorem dX12_sum_64 : decode cX12_sum 64 = .ok (.ifCond .eq 10, 3) := by decide +kernel
theorem dX12_sum_67 : decode cX12_sum 67 = .ok (.iload_n 2, 1) := by decide +kernel
theorem dX12_sum_68 : decode cX12_sum 68 = .ok (.iload 4, 2) := by decide +kernel
theorem dX12_sum_70 : decode cX12_sum 70 = .ok (.iadd, 1) := by decide +kernel
theorem dX12_sum_71 : decode cX12_sum 71 = .ok (.goto 7, 3) := by decide +kernel
theorem dX12_sum_74 : decode cX12_sum 74 = .ok (.iload_n 2, 1) := by decide +kernel
theorem dX12_sum_75 : decode cX12_sum 75 = .ok (.iload 4, 2) := by decide +kernel
theorem dX12_sum_77 : decode cX12_sum 77 = .ok (.isub, 1) := by decide +kernel
theorem dX12_sum_78 : decode cX12_sum 78 = .ok (.istore_n 2, 1) := by decide +kernel
theorem dX12_sum_79 : decode cX12_sum 79 = .ok (.goto (-73), 3) := by decide +kernel
theorem dX12_sum_82 : decode cX12_sum 82 = .ok (.iload_n 2, 1) := by decide +kernel
theorem dX12_sum_83 : decode cX12_sum 83 = .ok (.ireturn, 1) := by decide +kernel
theorem dX12_product_0 : decode cX12_product 0 = .ok (.aload_n 0, 1) := by decide +kernel
theorem dX12_product_1 : decode cX12_product 1 = .ok (.iload_n 1, 1) := by decide +kernel
theorem dX12_product_2 : decode cX12_product 2 = .ok (.invokevirtual 163, 3) := by decide +kernel
theorem dX12_product_5 : decode cX12_product 5 = .ok (.istore_n 2, 1) := by decide +kernel
theorem dX12_product_6 : decode cX12_product 6 = .ok (.aload_n 0, 1) := by decide +kernel
theorem dX12_product_7 : decode cX12_product 7 = .ok (.invokevirtual 124, 3) := by decide +kernel
theorem dX12_product_10 : decode cX12_product 10 = .ok (.ifCond .eq 81, 3) := by decide +kernel
theorem dX12_product_13 : decode cX12_product 13 = .ok (.aload_n 0, 1) := by decide +kernel
theorem dX12_product_14 : decode cX12_product 14 = .ok (.invokevirtual 128, 3) := by decide +kernel
theorem dX12_product_17 : decode cX12_product 17 = .ok (.bipush 42, 2) := by decide +kernel
theorem dX12_product_19 : decode cX12_product 19 = .ok (.if_icmp .eq 12, 3) := by decide +kernel
theorem dX12_product_22 : decode cX12_product 22 = .ok (.aload_n 0, 1) := by decide +kernel
theorem dX12_product_23 : decode cX12_product 23 = .ok (.invokevirtual 128, 3) := by decide +kernel
theorem dX12_product_26 : decode cX12_product 26 = .ok (.bipush 47, 2) := by decide +kernel
theorem dX12_product_28 : decode cX12_product 28 = .ok (.if_icmp .ne 63, 3) := by decide +kernel
theorem dX12_product_31 : decode cX12_product 31 = .ok (.aload_n 0, 1) := by decide +kernel
theorem dX12_product_32 : decode cX12_product 32 = .ok (.invokevirtual 128, 3) := by decide +kernel
theorem dX12_product_35 : decode cX12_product 35 = .ok (.bipush 42, 2) := by decide +kernel
theorem dX12_product_37 : decode cX12_product 37 = .ok (.if_icmp .ne 7, 3) := by decide +kernel
theorem dX12_product_40 : decode cX12_product 40 = .ok (.iconst 1, 1) := by decide +kernel
theorem dX12_product_41 : decode cX12_product 41 = .ok (.goto 4, 3) := by decide +kernel
theorem dX12_product_44 : decode cX12_product 44 = .ok (.iconst 0, 1) := by decide +kernel
theorem dX12_product_45 : decode cX12_product 45 = .ok (.istore_n 3, 1) := by decide +kernel
theorem dX12_product_46 : decode cX12_product 46 = .ok (.aload_n 0, 1) := by decide +kernel
theorem dX12_product_47 : decode cX12_product 47 = .ok (.dup, 1) := by decide +kernel
theorem dX12_product_48 : decode cX12_product 48 = .ok (.getfield 114, 3) := by decide +kernel
theorem dX12_product_51 : decode cX12_product 51 = .ok (.iconst 1, 1) := by decide +kernel
theorem dX12_product_52 : decode cX12_product 52 = .ok (.iadd, 1) := by decide +kernel
theorem dX12_product_53 : decode cX12_product 53 = .ok (.putfield 114, 3) := by decide +kernel
theorem dX12_product_56 : decode cX12_product 56 = .ok (.aload_n 0, 1) := by decide +kernel
theorem dX12_product_57 : decode cX12_product 57 = .ok (.iload_n 1, 1) := by decide +kernel
theorem dX12_product_58 : decode cX12_product 58 = .ok (.invokevirtual 163, 3) := by decide +kernel
theorem dX12_product_61 : decode cX12_product 61 = .ok (.istore 4, 2) := by decide +kernel
theorem dX12_product_63 : decode cX12_product 63 = .ok (.iload_n 3, 1) := by decide +kernel
theorem dX12_product_64 : decode cX12_product 64 = .ok (.ifCond .eq 10, 3) := by decide +kernel
theorem dX12_product_67 : decode cX12_product 67 = .ok (.iload_n 2, 1) := by decide +kernel
theorem dX12_product_68 : decode cX12_product 68 = .ok (.iload 4, 2) := by decide +kernel
theorem dX12_product_70 : decode cX12_product 70 = .ok (.imul, 1) := by decide +kernel
theorem dX12_product_71 : decode cX12_product 71 = .ok (.goto 16, 3) := by decide +kernel
theorem dX12_product_74 : decode cX12_product 74 = .ok (.iload 4, 2) := by decide +kernel
theorem dX12_product_76 : decode cX12_product 76 = .ok (.ifCond .ne 7, 3) := by decide +kernel
theorem dX12_product_79 : decode cX12_product 79 = .ok (.iconst 0, 1) := by decide +kernel
theorem dX12_product_80 : decode cX12_product 80 = .ok (.goto 7, 3) := by decide +kernel
theorem dX12_product_83 : decode cX12_product 83 = .ok (.iload_n 2, 1) := by decide +kernel
theorem dX12_product_84 : decode cX12_product 84 = .ok (.iload 4, 2) := by decide +kernel
theorem dX12_product_86 : decode cX12_product 86 = .ok (.idiv, 1) := by decide +kernel
theorem dX12_product_87 : decode cX12_product 87 = .ok (.istore_n 2, 1) := by decide +kernel
theorem dX12_product_88 : decode cX12_product 88 = .ok (.goto (-82), 3) := by decide +kernel
theorem dX12_product_91 : decode cX12_product 91 = .ok (.iload_n 2, 1) := by decide +kernel
theorem dX12_product_92 : decode cX12_product 92 = .ok (.ireturn, 1) := by decide +kernel
theorem dX12_letterOf_0 : decode cX12_letterOf 0 = .ok (.iload_n 0, 1) := by decide +kernel
theorem dX12_letterOf_1 : decode cX12_letterOf 1 = .ok (.bipush 112, 2) := by decide +kernel
theorem dX12_letterOf_3 : decode cX12_letterOf 3 = .ok (.if_icmp .ne 7, 3) := by decide +kernel
theorem dX12_letterOf_6 : decode cX12_letterOf 6 = .ok (.iconst 0, 1) := by decide +kernel
theorem dX12_letterOf_7 : decode cX12_letterOf 7 = .ok (.goto 65, 3) := by decide +kernel
theorem dX12_letterOf_10 : decode cX12_letterOf 10 = .ok (.iload_n 0, 1) := by decide +kernel
theorem dX12_letterOf_11 : decode cX12_letterOf 11 = .ok (.bipush 104, 2) := by decide +kernel
theorem dX12_letterOf_13 : decode cX12_letterOf 13 = .ok (.if_icmp .ne 7, 3) := by decide +kernel
theorem dX12_letterOf_16 : decode cX12_letterOf 16 = .ok (.iconst 1, 1) := by decide +kernel
theorem dX12_letterOf_17 : decode cX12_letterOf 17 = .ok (.goto 55, 3) := by decide +kernel
theorem dX12_letterOf_20 : decode cX12_letterOf 20 = .ok (.iload_n 0, 1) := by decide +kernel
theorem dX12_letterOf_21 : decode cX12_letterOf 21 = .ok (.bipush 117, 2) := by decide +kernel
theorem dX12_letterOf_23 : decode cX12_letterOf 23 = .ok (.if_icmp .ne 7, 3) := by decide +kernel
theorem dX12_letterOf_26 : decode cX12_letterOf 26 = .ok (.iconst 2, 1) := by decide +kernel
theorem dX12_letterOf_27 : decode cX12_letterOf 27 = .ok (.goto 45, 3) := by decide +kernel
theorem dX12_letterOf_30 : decode cX12_letterOf 30 = .ok (.iload_n 0, 1) := by decide +kernel
theorem dX12_letterOf_31 : decode cX12_letterOf 31 = .ok (.bipush 111, 2) := by decide +kernel
theorem dX12_letterOf_33 : decode cX12_letterOf 33 = .ok (.if_icmp .ne 7, 3) := by decide +kernel
theorem dX12_letterOf_36 : decode cX12_letterOf 36 = .ok (.iconst 3, 1) := by decide +kernel
theorem dX12_letterOf_37 : decode cX12_letterOf 37 = .ok (.goto 35, 3) := by decide +kernel
theorem dX12_letterOf_40 : decode cX12_letterOf 40 = .ok (.iload_n 0, 1) := by decide +kernel
theorem dX12_letterOf_41 : decode cX12_letterOf 41 = .ok (.bipush 107, 2) := by decide +kernel
theorem dX12_letterOf_43 : decode cX12_letterOf 43 = .ok (.if_icmp .ne 7, 3) := by decide +kernel
theorem dX12_letterOf_46 : decode cX12_letterOf 46 = .ok (.iconst 4, 1) := by decide +kernel
theorem dX12_letterOf_47 : decode cX12_letterOf 47 = .ok (.goto 25, 3) := by decide +kernel
theorem dX12_letterOf_50 : decode cX12_letterOf 50 = .ok (.iload_n 0, 1) := by decide +kernel
theorem dX12_letterOf_51 : decode cX12_letterOf 51 = .ok (.bipush 98, 2) := by decide +kernel
theorem dX12_letterOf_53 : decode cX12_letterOf 53 = .ok (.if_icmp .ne 7, 3) := by decide +kernel
theorem dX12_letterOf_56 : decode cX12_letterOf 56 = .ok (.iconst 5, 1) := by decide +kernel
theorem dX12_letterOf_57 : decode cX12_letterOf 57 = .ok (.goto 15, 3) := by decide +kernel
theorem dX12_letterOf_60 : decode cX12_letterOf 60 = .ok (.iload_n 0, 1) := by decide +kernel
theorem dX12_letterOf_61 : decode cX12_letterOf 61 = .ok (.bipush 110, 2) := by decide +kernel
theorem dX12_letterOf_63 : decode cX12_letterOf 63 = .ok (.if_icmp .ne 8, 3) := by decide +kernel
theorem dX12_letterOf_66 : decode cX12_letterOf 66 = .ok (.bipush 6, 2) := by decide +kernel
theorem dX12_letterOf_68 : decode cX12_letterOf 68 = .ok (.goto 4, 3) := by decide +kernel
theorem dX12_letterOf_71 : decode cX12_letterOf 71 = .ok (.iconst (-1), 1) := by decide +kernel
theorem dX12_letterOf_72 : decode cX12_letterOf 72 = .ok (.ireturn, 1) := by decide +kernel
theorem dX12_thing_0 : decode cX12_thing 0 = .ok (.aload_n 0, 1) := by decide +kernel
theorem dX12_thing_1 : decode cX12_thing 1 = .ok (.bipush 45, 2) := by decide +kernel
theorem dX12_thing_3 : decode cX12_thing 3 = .ok (.invokevirtual 132, 3) := by decide +kernel
theorem dX12_thing_6 : decode cX12_thing 6 = .ok (.ifCond .eq 10, 3) := by decide +kernel
theorem dX12_thing_9 : decode cX12_thing 9 = .ok (.aload_n 0, 1) := by decide +kernel
theorem dX12_thing_10 : decode cX12_thing 10 = .ok (.iload_n 1, 1) := by decide +kernel
theorem dX12_thing_11 : decode cX12_thing 11 = .ok (.invokevirtual 163, 3) := by decide +kernel
theorem dX12_thing_14 : decode cX12_thing 14 = .ok (.ineg, 1) := by decide +kernel
theorem dX12_thing_15 : decode cX12_thing 15 = .ok (.ireturn, 1) := by decide +kernel
theorem dX12_thing_16 : decode cX12_thing 16 = .ok (.aload_n 0, 1) := by decide +kernel
theorem dX12_thing_17 : decode cX12_thing 17 = .ok (.invokevirtual 124, 3) := by decide +kernel
theorem dX12_thing_20 : decode cX12_thing 20 = .ok (.ifCond .ne 5, 3) := by decide +kernel
theorem dX12_thing_23 : decode cX12_thing 23 = .ok (.iconst 0, 1) := by decide +kernel
theorem dX12_thing_24 : decode cX12_thing 24 = .ok (.ireturn, 1) := by decide +kernel
theorem dX12_thing_25 : decode cX12_thing 25 = .ok (.aload_n 0, 1) := by decide +kernel
theorem dX12_thing_26 : decode cX12_thing 26 = .ok (.invokevirtual 128, 3) := by decide +kernel
theorem dX12_thing_29 : decode cX12_thing 29 = .ok (.istore_n 2, 1) := by decide +kernel
theorem dX12_thing_30 : decode cX12_thing 30 = .ok (.iload_n 2, 1) := by decide +kernel
theorem dX12_thing_31 : decode cX12_thing 31 = .ok (.bipush 40, 2) := by decide +kernel
theorem dX12_thing_33 : decode cX12_thing 33 = .ok (.if_icmp .ne 34, 3) := by decide +kernel
theorem dX12_thing_36 : decode cX12_thing 36 = .ok (.iload_n 1, 1) := by decide +kernel
theorem dX12_thing_37 : decode cX12_thing 37 = .ok (.iconst 4, 1) := by decide +kernel
theorem dX12_thing_38 : decode cX12_thing 38 = .ok (.if_icmp .ge 29, 3) := by decide +kernel
theorem dX12_thing_41 : decode cX12_thing 41 = .ok (.aload_n 0, 1) := by decide +kernel
theorem dX12_thing_42 : decode cX12_thing 42 = .ok (.dup, 1) := by decide +kernel
theorem dX12_thing_43 : decode cX12_thing 43 = .ok (.getfield 114, 3) := by decide +kernel
theorem dX12_thing_46 : decode cX12_thing 46 = .ok (.iconst 1, 1) := by decide +kernel
theorem dX12_thing_47 : decode cX12_thing 47 = .ok (.iadd, 1) := by decide +kernel
theorem dX12_thing_48 : decode cX12_thing 48 = .ok (.putfield 114, 3) := by decide +kernel
theorem dX12_thing_51 : decode cX12_thing 51 = .ok (.aload_n 0, 1) := by decide +kernel
theorem dX12_thing_52 : decode cX12_thing 52 = .ok (.iload_n 1, 1) := by decide +kernel
theorem dX12_thing_53 : decode cX12_thing 53 = .ok (.iconst 1, 1) := by decide +kernel
theorem dX12_thing_54 : decode cX12_thing 54 = .ok (.iadd, 1) := by decide +kernel
theorem dX12_thing_55 : decode cX12_thing 55 = .ok (.invokevirtual 166, 3) := by decide +kernel
theorem dX12_thing_58 : decode cX12_thing 58 = .ok (.istore_n 3, 1) := by decide +kernel
theorem dX12_thing_59 : decode cX12_thing 59 = .ok (.aload_n 0, 1) := by decide +kernel
theorem dX12_thing_60 : decode cX12_thing 60 = .ok (.bipush 41, 2) := by decide +kernel
theorem dX12_thing_62 : decode cX12_thing 62 = .ok (.invokevirtual 169, 3) := by decide +kernel
theorem dX12_thing_65 : decode cX12_thing 65 = .ok (.iload_n 3, 1) := by decide +kernel
theorem dX12_thing_66 : decode cX12_thing 66 = .ok (.ireturn, 1) := by decide +kernel
theorem dX12_thing_67 : decode cX12_thing 67 = .ok (.iload_n 2, 1) := by decide +kernel
theorem dX12_thing_68 : decode cX12_thing 68 = .ok (.bipush 48, 2) := by decide +kernel
theorem dX12_thing_70 : decode cX12_thing 70 = .ok (.bipush 57, 2) := by decide +kernel
theorem dX12_thing_72 : decode cX12_thing 72 = .ok (.invokestatic 98, 3) := by decide +kernel
theorem dX12_thing_75 : decode cX12_thing 75 = .ok (.ifCond .eq 9, 3) := by decide +kernel
theorem dX12_thing_78 : decode cX12_thing 78 = .ok (.aload_n 0, 1) := by decide +kernel
theorem dX12_thing_79 : decode cX12_thing 79 = .ok (.iconst 3, 1) := by decide +kernel
theorem dX12_thing_80 : decode cX12_thing 80 = .ok (.invokevirtual 173, 3) := by decide +kernel
theorem dX12_thing_83 : decode cX12_thing 83 = .ok (.ireturn, 1) := by decide +kernel
theorem dX12_thing_84 : decode cX12_thing 84 = .ok (.iload_n 2, 1) := by decide +kernel
theorem dX12_thing_85 : decode cX12_thing 85 = .ok (.invokestatic 176, 3) := by decide +kernel
theorem dX12_thing_88 : decode cX12_thing 88 = .ok (.iconst (-1), 1) := by decide +kernel
theorem dX12_thing_89 : decode cX12_thing 89 = .ok (.if_icmp .ne 13, 3) := by decide +kernel
theorem dX12_thing_92 : decode cX12_thing 92 = .ok (.aload_n 0, 1) := by decide +kernel
theorem dX12_thing_93 : decode cX12_thing 93 = .ok (.aload_n 0, 1) := by decide +kernel
theorem dX12_thing_94 : decode cX12_thing 94 = .ok (.getfield 114, 3) := by decide +kernel
theorem dX12_thing_97 : decode cX12_thing 97 = .ok (.invokevirtual 136, 3) := by decide +kernel
theorem dX12_thing_100 : decode cX12_thing 100 = .ok (.iconst 0, 1) := by decide +kernel
theorem dX12_thing_101 : decode cX12_thing 101 = .ok (.ireturn, 1) := by decide +kernel
theorem dX12_thing_102 : decode cX12_thing 102 = .ok (.aload_n 0, 1) := by decide +kernel
theorem dX12_thing_103 : decode cX12_thing 103 = .ok (.dup, 1) := by decide +kernel
theorem dX12_thing_104 : decode cX12_thing 104 = .ok (.getfield 114, 3) := by decide +kernel
theorem dX12_thing_107 : decode cX12_thing 107 = .ok (.iconst 1, 1) := by decide +kernel
theorem dX12_thing_108 : decode cX12_thing 108 = .ok (.iadd, 1) := by decide +kernel
theorem dX12_thing_109 : decode cX12_thing 109 = .ok (.putfield 114, 3) := by decide +kernel
theorem dX12_thing_112 : decode cX12_thing 112 = .ok (.aload_n 0, 1) := by decide +kernel
theorem dX12_thing_113 : decode cX12_thing 113 = .ok (.getfield 179, 3) := by decide +kernel
theorem dX12_thing_116 : decode cX12_thing 116 = .ok (.ifCond .eq 15, 3) := by decide +kernel
theorem dX12_thing_119 : decode cX12_thing 119 = .ok (.aload_n 0, 1) := by decide +kernel
theorem dX12_thing_120 : decode cX12_thing 120 = .ok (.getfield 33, 3) := by decide +kernel
theorem dX12_thing_123 : decode cX12_thing 123 = .ok (.iload_n 2, 1) := by decide +kernel
theorem dX12_thing_124 : decode cX12_thing 124 = .ok (.invokestatic 176, 3) := by decide +kernel
theorem dX12_thing_127 : decode cX12_thing 127 = .ok (.iaload, 1) := by decide +kernel
theorem dX12_thing_128 : decode cX12_thing 128 = .ok (.goto 4, 3) := by decide +kernel
theorem dX12_thing_131 : decode cX12_thing 131 = .ok (.iconst 0, 1) := by decide +kernel
theorem dX12_thing_132 : decode cX12_thing 132 = .ok (.ireturn, 1) := by decide +kernel
theorem dX12_readRule_0 : decode cX12_readRule 0 = .ok (.aload_n 0, 1) := by decide +kernel
theorem dX12_readRule_1 : decode cX12_readRule 1 = .ok (.bipush 40, 2) := by decide +kernel
theorem dX12_readRule_3 : decode cX12_readRule 3 = .ok (.invokevirtual 144, 3) := by decide +kernel
theorem dX12_readRule_6 : decode cX12_readRule 6 = .ok (.aload_n 0, 1) := by decide +kernel
theorem dX12_readRule_7 : decode cX12_readRule 7 = .ok (.iconst 0, 1) := by decide +kernel
theorem dX12_readRule_8 : decode cX12_readRule 8 = .ok (.putfield 179, 3) := by decide +kernel
theorem dX12_readRule_11 : decode cX12_readRule 11 = .ok (.aload_n 0, 1) := by decide +kernel
theorem dX12_readRule_12 : decode cX12_readRule 12 = .ok (.getfield 108, 3) := by decide +kernel
theorem dX12_readRule_15 : decode cX12_readRule 15 = .ok (.ifCond .le 9, 3) := by decide +kernel
theorem dX12_readRule_18 : decode cX12_readRule 18 = .ok (.aload_n 0, 1) := by decide +kernel
theorem dX12_readRule_19 : decode cX12_readRule 19 = .ok (.iconst 0, 1) := by decide +kernel
theorem dX12_readRule_20 : decode cX12_readRule 20 = .ok (.invokevirtual 166, 3) := by decide +kernel
theorem dX12_readRule_23 : decode cX12_readRule 23 = .ok (.pop, 1) := by decide +kernel
theorem dX12_readRule_24 : decode cX12_readRule 24 = .ok (.aload_n 0, 1) := by decide +kernel
theorem dX12_readRule_25 : decode cX12_readRule 25 = .ok (.invokevirtual 147, 3) := by decide +kernel
theorem dX12_readRule_28 : decode cX12_readRule 28 = .ok (.ireturn, 1) := by decide +kernel
theorem dX12_rule_0 : decode cX12_rule 0 = .ok (.aload_n 0, 1) := by decide +kernel
theorem dX12_rule_1 : decode cX12_rule 1 = .ok (.iconst 0, 1) := by decide +kernel
theorem dX12_rule_2 : decode cX12_rule 2 = .ok (.putfield 88, 3) := by decide +kernel
theorem dX12_rule_5 : decode cX12_rule 5 = .ok (.aload_n 0, 1) := by decide +kernel
theorem dX12_rule_6 : decode cX12_rule 6 = .ok (.getfield 102, 3) := by decide +kernel
theorem dX12_rule_9 : decode cX12_rule 9 = .ok (.istore_n 1, 1) := by decide +kernel
theorem dX12_rule_10 : decode cX12_rule 10 = .ok (.aload_n 0, 1) := by decide +kernel
theorem dX12_rule_11 : decode cX12_rule 11 = .ok (.invokevirtual 183, 3) := by decide +kernel
theorem dX12_rule_14 : decode cX12_rule 14 = .ok (.ifCond .ne 10, 3) := by decide +kernel
theorem dX12_rule_17 : decode cX12_rule 17 = .ok (.iconst (-1), 1) := by decide +kernel
theorem dX12_rule_18 : decode cX12_rule 18 = .ok (.aload_n 0, 1) := by decide +kernel
theorem dX12_rule_19 : decode cX12_rule 19 = .ok (.getfield 117, 3) := by decide +kernel
theorem dX12_rule_22 : decode cX12_rule 22 = .ok (.isub, 1) := by decide +kernel
theorem dX12_rule_23 : decode cX12_rule 23 = .ok (.ireturn, 1) := by decide +kernel
theorem dX12_rule_24 : decode cX12_rule 24 = .ok (.iconst 0, 1) := by decide +kernel
theorem dX12_rule_25 : decode cX12_rule 25 = .ok (.istore_n 2, 1) := by decide +kernel
theorem dX12_rule_26 : decode cX12_rule 26 = .ok (.iload_n 2, 1) := by decide +kernel
theorem dX12_rule_27 : decode cX12_rule 27 = .ok (.iload_n 1, 1) := by decide +kernel
theorem dX12_rule_28 : decode cX12_rule 28 = .ok (.if_icmp .ge 21, 3) := by decide +kernel
theorem dX12_rule_31 : decode cX12_rule 31 = .ok (.aload_n 0, 1) := by decide +kernel
theorem dX12_rule_32 : decode cX12_rule 32 = .ok (.getfield 27, 3) := by decide +kernel
theorem dX12_rule_35 : decode cX12_rule 35 = .ok (.iload_n 2, 1) := by decide +kernel
theorem dX12_rule_36 : decode cX12_rule 36 = .ok (.aload_n 0, 1) := by decide +kernel
theorem dX12_rule_37 : decode cX12_rule 37 = .ok (.getfield 16, 3) := by decide +kernel
theorem dX12_rule_40 : decode cX12_rule 40 = .ok (.iload_n 2, 1) := by decide +kernel
theorem dX12_rule_41 : decode cX12_rule 41 = .ok (.baload, 1) := by decide +kernel
theorem dX12_rule_42 : decode cX12_rule 42 = .ok (.bastore, 1) := by decide +kernel
theorem dX12_rule_43 : decode cX12_rule 43 = .ok (.iinc 2 1, 3) := by decide +kernel
theorem dX12_rule_46 : decode cX12_rule 46 = .ok (.goto (-20), 3) := by decide +kernel
theorem dX12_rule_49 : decode cX12_rule 49 = .ok (.aload_n 0, 1) := by decide +kernel
theorem dX12_rule_50 : decode cX12_rule 50 = .ok (.iload_n 1, 1) := by decide +kernel
theorem dX12_rule_51 : decode cX12_rule 51 = .ok (.putfield 186, 3) := by decide +kernel
theorem dX12_rule_54 : decode cX12_rule 54 = .ok (.iconst 0, 1) := by decide +kernel
theorem dX12_rule_55 : decode cX12_rule 55 = .ok (.ireturn, 1) := by decide +kernel
theorem dX12_stepsOf_0 : decode cX12_stepsOf 0 = .ok (.iconst 1, 1) := by decide +kernel
theorem dX12_stepsOf_1 : decode cX12_stepsOf 1 = .ok (.aload_n 0, 1) := by decide +kernel
theorem dX12_stepsOf_2 : decode cX12_stepsOf 2 = .ok (.getfield 13, 3) := by decide +kernel
theorem dX12_stepsOf_5 : decode cX12_stepsOf 5 = .ok (.iload_n 2, 1) := by decide +kernel
theorem dX12_stepsOf_6 : decode cX12_stepsOf 6 = .ok (.iaload, 1) := by decide +kernel
theorem dX12_stepsOf_7 : decode cX12_stepsOf 7 = .ok (.iconst 4, 1) := by decide +kernel
theorem dX12_stepsOf_8 : decode cX12_stepsOf 8 = .ok (.idiv, 1) := by decide +kernel
theorem dX12_stepsOf_9 : decode cX12_stepsOf 9 = .ok (.iadd, 1) := by decide +kernel
theorem dX12_stepsOf_10 : decode cX12_stepsOf 10 = .ok (.istore_n 3, 1) := by decide +kernel
theorem dX12_stepsOf_11 : decode cX12_stepsOf 11 = .ok (.aload_n 0, 1) := by decide +kernel
theorem dX12_stepsOf_12 : decode cX12_stepsOf 12 = .ok (.getfield 186, 3) := by decide +kernel
theorem dX12_stepsOf_15 : decode cX12_stepsOf 15 = .ok (.ifCond .le 221, 3) := by decide +kernel
theorem dX12_stepsOf_18 : decode cX12_stepsOf 18 = .ok (.iconst 0, 1) := by decide +kernel
theorem dX12_stepsOf_19 : decode cX12_stepsOf 19 = .ok (.istore 4, 2) := by decide +kernel
theorem dX12_stepsOf_21 : decode cX12_stepsOf 21 = .ok (.iconst 0, 1) := by decide +kernel
theorem dX12_stepsOf_22 : decode cX12_stepsOf 22 = .ok (.istore 5, 2) := by decide +kernel
theorem dX12_stepsOf_24 : decode cX12_stepsOf 24 = .ok (.iconst 0, 1) := by decide +kernel
theorem dX12_stepsOf_25 : decode cX12_stepsOf 25 = .ok (.istore 6, 2) := by decide +kernel
theorem dX12_stepsOf_27 : decode cX12_stepsOf 27 = .ok (.iload 6, 2) := by decide +kernel
theorem dX12_stepsOf_29 : decode cX12_stepsOf 29 = .ok (.aload_n 0, 1) := by decide +kernel
theorem dX12_stepsOf_30 : decode cX12_stepsOf 30 = .ok (.getfield 95, 3) := by decide +kernel
theorem dX12_stepsOf_33 : decode cX12_stepsOf 33 = .ok (.if_icmp .ge 82, 3) := by decide +kernel
theorem dX12_stepsOf_36 : decode cX12_stepsOf 36 = .ok (.iload 4, 2) := by decide +kernel
theorem dX12_stepsOf_38 : decode cX12_stepsOf 38 = .ok (.iload 6, 2) := by decide +kernel
theorem dX12_stepsOf_40 : decode cX12_stepsOf 40 = .ok (.iload_n 2, 1) := by decide +kernel
theorem dX12_stepsOf_41 : decode cX12_stepsOf 41 = .ok (.if_icmp .eq 27, 3) := by decide +kernel
theorem dX12_stepsOf_44 : decode cX12_stepsOf 44 = .ok (.aload_n 1, 1) := by decide +kernel
theorem dX12_stepsOf_45 : decode cX12_stepsOf 45 = .ok (.bipush 7, 2) := by decide +kernel
theorem dX12_stepsOf_47 : decode cX12_stepsOf 47 = .ok (.iload 6, 2) := by decide +kernel
theorem dX12_stepsOf_49 : decode cX12_stepsOf 49 = .ok (.iadd, 1) := by decide +kernel
theorem dX12_stepsOf_50 : decode cX12_stepsOf 50 = .ok (.iaload, 1) := by decide +kernel
theorem dX12_stepsOf_51 : decode cX12_stepsOf 51 = .ok (.ifCond .eq 17, 3) := by decide +kernel
theorem dX12_stepsOf_54 : decode cX12_stepsOf 54 = .ok (.aload_n 1, 1) := by decide +kernel
theorem dX12_stepsOf_55 : decode cX12_stepsOf 55 = .ok (.iload 6, 2) := by decide +kernel
theorem dX12_stepsOf_57 : decode cX12_stepsOf 57 = .ok (.iaload, 1) := by decide +kernel
theorem dX12_stepsOf_58 : decode cX12_stepsOf 58 = .ok (.aload_n 1, 1) := by decide +kernel
theorem dX12_stepsOf_59 : decode cX12_stepsOf 59 = .ok (.iload_n 2, 1) := by decide +kernel
theorem dX12_stepsOf_60 : decode cX12_stepsOf 60 = .ok (.iaload, 1) := by decide +kernel
theorem dX12_stepsOf_61 : decode cX12_stepsOf 61 = .ok (.if_icmp .ne 7, 3) := by decide +kernel
theorem dX12_stepsOf_64 : decode cX12_stepsOf 64 = .ok (.iconst 1, 1) := by decide +kernel
theorem dX12_stepsOf_65 : decode cX12_stepsOf 65 = .ok (.goto 4, 3) := by decide +kernel
theorem dX12_stepsOf_68 : decode cX12_stepsOf 68 = .ok (.iconst 0, 1) := by decide +kernel
theorem dX12_stepsOf_69 : decode cX12_stepsOf 69 = .ok (.iadd, 1) := by decide +kernel
theorem dX12_stepsOf_70 : decode cX12_stepsOf 70 = .ok (.istore 4, 2) := by decide +kernel
theorem dX12_stepsOf_72 : decode cX12_stepsOf 72 = .ok (.iload 5, 2) := by decide +kernel
theorem dX12_stepsOf_74 : decode cX12_stepsOf 74 = .ok (.iload 6, 2) := by decide +kernel
theorem dX12_stepsOf_76 : decode cX12_stepsOf 76 = .ok (.iload_n 2, 1) := by decide +kernel
theorem dX12_stepsOf_77 : decode cX12_stepsOf 77 = .ok (.if_icmp .eq 28, 3) := by decide +kernel
theorem dX12_stepsOf_80 : decode cX12_stepsOf 80 = .ok (.aload_n 1, 1) := by decide +kernel
theorem dX12_stepsOf_81 : decode cX12_stepsOf 81 = .ok (.bipush 7, 2) := by decide +kernel
theorem dX12_stepsOf_83 : decode cX12_stepsOf 83 = .ok (.iload 6, 2) := by decide +kernel
theorem dX12_stepsOf_85 : decode cX12_stepsOf 85 = .ok (.iadd, 1) := by decide +kernel
theorem dX12_stepsOf_86 : decode cX12_stepsOf 86 = .ok (.iaload, 1) := by decide +kernel
theorem dX12_stepsOf_87 : decode cX12_stepsOf 87 = .ok (.iconst 2, 1) := by decide +kernel
theorem dX12_stepsOf_88 : decode cX12_stepsOf 88 = .ok (.if_icmp .ne 17, 3) := by decide +kernel
theorem dX12_stepsOf_91 : decode cX12_stepsOf 91 = .ok (.aload_n 1, 1) := by decide +kernel
theorem dX12_stepsOf_92 : decode cX12_stepsOf 92 = .ok (.iload 6, 2) := by decide +kernel
theorem dX12_stepsOf_94 : decode cX12_stepsOf 94 = .ok (.iaload, 1) := by decide +kernel
theorem dX12_stepsOf_95 : decode cX12_stepsOf 95 = .ok (.aload_n 1, 1) := by decide +kernel
theorem dX12_stepsOf_96 : decode cX12_stepsOf 96 = .ok (.iload_n 2, 1) := by decide +kernel
theorem dX12_stepsOf_97 : decode cX12_stepsOf 97 = .ok (.iaload, 1) := by decide +kernel
theorem dX12_stepsOf_98 : decode cX12_stepsOf 98 = .ok (.if_icmp .ge 7, 3) := by decide +kernel
theorem dX12_stepsOf_101 : decode cX12_stepsOf 101 = .ok (.iconst 1, 1) := by decide +kernel
theorem dX12_stepsOf_102 : decode cX12_stepsOf 102 = .ok (.goto 4, 3) := by decide +kernel
theorem dX12_stepsOf_105 : decode cX12_stepsOf 105 = .ok (.iconst 0, 1) := by decide +kernel
theorem dX12_stepsOf_106 : decode cX12_stepsOf 106 = .ok (.iadd, 1) := by decide +kernel
theorem dX12_stepsOf_107 : decode cX12_stepsOf 107 = .ok (.istore 5, 2) := by decide +kernel
theorem dX12_stepsOf_109 : decode cX12_stepsOf 109 = .ok (.iinc 6 1, 3) := by decide +kernel
theorem dX12_stepsOf_112 : decode cX12_stepsOf 112 = .ok (.goto (-85), 3) := by decide +kernel
theorem dX12_stepsOf_115 : decode cX12_stepsOf 115 = .ok (.aload_n 0, 1) := by decide +kernel
theorem dX12_stepsOf_116 : decode cX12_stepsOf 116 = .ok (.getfield 33, 3) := by decide +kernel
theorem dX12_stepsOf_119 : decode cX12_stepsOf 119 = .ok (.iconst 0, 1) := by decide +kernel
theorem dX12_stepsOf_120 : decode cX12_stepsOf 120 = .ok (.aload_n 0, 1) := by decide +kernel
theorem dX12_stepsOf_121 : decode cX12_stepsOf 121 = .ok (.getfield 13, 3) := by decide +kernel
theorem dX12_stepsOf_124 : decode cX12_stepsOf 124 = .ok (.iload_n 2, 1) := by decide +kernel
theorem dX12_stepsOf_125 : decode cX12_stepsOf 125 = .ok (.iaload, 1) := by decide +kernel
theorem dX12_stepsOf_126 : decode cX12_stepsOf 126 = .ok (.iastore, 1) := by decide +kernel
theorem dX12_stepsOf_127 : decode cX12_stepsOf 127 = .ok (.aload_n 0, 1) := by decide +kernel
theorem dX12_stepsOf_128 : decode cX12_stepsOf 128 = .ok (.getfield 33, 3) := by decide +kernel
theorem dX12_stepsOf_131 : decode cX12_stepsOf 131 = .ok (.iconst 1, 1) := by decide +kernel
theorem dX12_stepsOf_132 : decode cX12_stepsOf 132 = .ok (.aload_n 1, 1) := by decide +kernel
theorem dX12_stepsOf_133 : decode cX12_stepsOf 133 = .ok (.iload_n 2, 1) := by decide +kernel
theorem dX12_stepsOf_134 : decode cX12_stepsOf 134 = .ok (.iaload, 1) := by decide +kernel
theorem dX12_stepsOf_135 : decode cX12_stepsOf 135 = .ok (.iastore, 1) := by decide +kernel
theorem dX12_stepsOf_136 : decode cX12_stepsOf 136 = .ok (.aload_n 0, 1) := by decide +kernel
theorem dX12_stepsOf_137 : decode cX12_stepsOf 137 = .ok (.getfield 33, 3) := by decide +kernel
theorem dX12_stepsOf_140 : decode cX12_stepsOf 140 = .ok (.iconst 2, 1) := by decide +kernel
theorem dX12_stepsOf_141 : decode cX12_stepsOf 141 = .ok (.aload_n 1, 1) := by decide +kernel
theorem dX12_stepsOf_142 : decode cX12_stepsOf 142 = .ok (.bipush 7, 2) := by decide +kernel
theorem dX12_stepsOf_144 : decode cX12_stepsOf 144 = .ok (.iload_n 2, 1) := by decide +kernel
theorem dX12_stepsOf_145 : decode cX12_stepsOf 145 = .ok (.iadd, 1) := by decide +kernel
theorem dX12_stepsOf_146 : decode cX12_stepsOf 146 = .ok (.iaload, 1) := by decide +kernel
theorem dX12_stepsOf_147 : decode cX12_stepsOf 147 = .ok (.iconst 1, 1) := by decide +kernel
theorem dX12_stepsOf_148 : decode cX12_stepsOf 148 = .ok (.if_icmp .ne 7, 3) := by decide +kernel
theorem dX12_stepsOf_151 : decode cX12_stepsOf 151 = .ok (.iconst 1, 1) := by decide +kernel
theorem dX12_stepsOf_152 : decode cX12_stepsOf 152 = .ok (.goto 4, 3) := by decide +kernel
theorem dX12_stepsOf_155 : decode cX12_stepsOf 155 = .ok (.iconst 0, 1) := by decide +kernel
theorem dX12_stepsOf_156 : decode cX12_stepsOf 156 = .ok (.iastore, 1) := by decide +kernel
theorem dX12_stepsOf_157 : decode cX12_stepsOf 157 = .ok (.aload_n 0, 1) := by decide +kernel
theorem dX12_stepsOf_158 : decode cX12_stepsOf 158 = .ok (.getfield 33, 3) := by decide +kernel
theorem dX12_stepsOf_161 : decode cX12_stepsOf 161 = .ok (.iconst 3, 1) := by decide +kernel
theorem dX12_stepsOf_162 : decode cX12_stepsOf 162 = .ok (.aload_n 1, 1) := by decide +kernel
theorem dX12_stepsOf_163 : decode cX12_stepsOf 163 = .ok (.bipush 29, 2) := by decide +kernel
theorem dX12_stepsOf_165 : decode cX12_stepsOf 165 = .ok (.iaload, 1) := by decide +kernel
theorem dX12_stepsOf_166 : decode cX12_stepsOf 166 = .ok (.iload_n 2, 1) := by decide +kernel
theorem dX12_stepsOf_167 : decode cX12_stepsOf 167 = .ok (.if_icmp .ne 7, 3) := by decide +kernel
theorem dX12_stepsOf_170 : decode cX12_stepsOf 170 = .ok (.iconst 1, 1) := by decide +kernel
theorem dX12_stepsOf_171 : decode cX12_stepsOf 171 = .ok (.goto 4, 3) := by decide +kernel
theorem dX12_stepsOf_174 : decode cX12_stepsOf 174 = .ok (.iconst 0, 1) := by decide +kernel
theorem dX12_stepsOf_175 : decode cX12_stepsOf 175 = .ok (.iastore, 1) := by decide +kernel
theorem dX12_stepsOf_176 : decode cX12_stepsOf 176 = .ok (.aload_n 0, 1) := by decide +kernel
theorem dX12_stepsOf_177 : decode cX12_stepsOf 177 = .ok (.getfield 33, 3) := by decide +kernel
theorem dX12_stepsOf_180 : decode cX12_stepsOf 180 = .ok (.iconst 4, 1) := by decide +kernel
theorem dX12_stepsOf_181 : decode cX12_stepsOf 181 = .ok (.iload 4, 2) := by decide +kernel
theorem dX12_stepsOf_183 : decode cX12_stepsOf 183 = .ok (.iastore, 1) := by decide +kernel
theorem dX12_stepsOf_184 : decode cX12_stepsOf 184 = .ok (.aload_n 0, 1) := by decide +kernel
theorem dX12_stepsOf_185 : decode cX12_stepsOf 185 = .ok (.getfield 33, 3) := by decide +kernel
theorem dX12_stepsOf_188 : decode cX12_stepsOf 188 = .ok (.iconst 5, 1) := by decide +kernel
theorem dX12_stepsOf_189 : decode cX12_stepsOf 189 = .ok (.iload 5, 2) := by decide +kernel
theorem dX12_stepsOf_191 : decode cX12_stepsOf 191 = .ok (.iastore, 1) := by decide +kernel
theorem dX12_stepsOf_192 : decode cX12_stepsOf 192 = .ok (.aload_n 0, 1) := by decide +kernel
theorem dX12_stepsOf_193 : decode cX12_stepsOf 193 = .ok (.getfield 33, 3) := by decide +kernel
theorem dX12_stepsOf_196 : decode cX12_stepsOf 196 = .ok (.bipush 6, 2) := by decide +kernel
theorem dX12_stepsOf_198 : decode cX12_stepsOf 198 = .ok (.aload_n 1, 1) := by decide +kernel
theorem dX12_stepsOf_199 : decode cX12_stepsOf 199 = .ok (.bipush 30, 2) := by decide +kernel
theorem dX12_stepsOf_201 : decode cX12_stepsOf 201 = .ok (.iaload, 1) := by decide +kernel
theorem dX12_stepsOf_202 : decode cX12_stepsOf 202 = .ok (.bipush 7, 2) := by decide +kernel
theorem dX12_stepsOf_204 : decode cX12_stepsOf 204 = .ok (.irem, 1) := by decide +kernel
theorem dX12_stepsOf_205 : decode cX12_stepsOf 205 = .ok (.iastore, 1) := by decide +kernel
theorem dX12_stepsOf_206 : decode cX12_stepsOf 206 = .ok (.aload_n 0, 1) := by decide +kernel
theorem dX12_stepsOf_207 : decode cX12_stepsOf 207 = .ok (.aload_n 0, 1) := by decide +kernel
theorem dX12_stepsOf_208 : decode cX12_stepsOf 208 = .ok (.getfield 27, 3) := by decide +kernel
theorem dX12_stepsOf_211 : decode cX12_stepsOf 211 = .ok (.aload_n 0, 1) := by decide +kernel
theorem dX12_stepsOf_212 : decode cX12_stepsOf 212 = .ok (.getfield 186, 3) := by decide +kernel
theorem dX12_stepsOf_215 : decode cX12_stepsOf 215 = .ok (.bipush 40, 2) := by decide +kernel
theorem dX12_stepsOf_217 : decode cX12_stepsOf 217 = .ok (.invokevirtual 120, 3) := by decide +kernel
theorem dX12_stepsOf_220 : decode cX12_stepsOf 220 = .ok (.aload_n 0, 1) := by decide +kernel
theorem dX12_stepsOf_221 : decode cX12_stepsOf 221 = .ok (.iconst 1, 1) := by decide +kernel
theorem dX12_stepsOf_222 : decode cX12_stepsOf 222 = .ok (.putfield 179, 3) := by decide +kernel
theorem dX12_stepsOf_225 : decode cX12_stepsOf 225 = .ok (.aload_n 0, 1) := by decide +kernel
theorem dX12_stepsOf_226 : decode cX12_stepsOf 226 = .ok (.iconst 0, 1) := by decide +kernel
theorem dX12_stepsOf_227 : decode cX12_stepsOf 227 = .ok (.invokevirtual 166, 3) := by decide +kernel
theorem dX12_stepsOf_230 : decode cX12_stepsOf 230 = .ok (.istore_n 3, 1) := by decide +kernel
theorem dX12_stepsOf_231 : decode cX12_stepsOf 231 = .ok (.aload_n 0, 1) := by decide +kernel
theorem dX12_stepsOf_232 : decode cX12_stepsOf 232 = .ok (.iconst 0, 1) := by decide +kernel
theorem dX12_stepsOf_233 : decode cX12_stepsOf 233 = .ok (.putfield 179, 3) := by decide +kernel
theorem dX12_stepsOf_236 : decode cX12_stepsOf 236 = .ok (.iconst 0, 1) := by decide +kernel
theorem dX12_stepsOf_237 : decode cX12_stepsOf 237 = .ok (.iconst 3, 1) := by decide +kernel
theorem dX12_stepsOf_238 : decode cX12_stepsOf 238 = .ok (.iload_n 3, 1) := by decide +kernel
theorem dX12_stepsOf_239 : decode cX12_stepsOf 239 = .ok (.invokestatic 189, 3) := by decide +kernel
theorem dX12_stepsOf_242 : decode cX12_stepsOf 242 = .ok (.invokestatic 195, 3) := by decide +kernel
theorem dX12_stepsOf_245 : decode cX12_stepsOf 245 = .ok (.ireturn, 1) := by decide +kernel
theorem dX12_refusesTop_0 : decode cX12_refusesTop 0 = .ok (.iload_n 1, 1) := by decide +kernel
theorem dX12_refusesTop_1 : decode cX12_refusesTop 1 = .ok (.iconst 2, 1) := by decide +kernel
theorem dX12_refusesTop_2 : decode cX12_refusesTop 2 = .ok (.bipush 9, 2) := by decide +kernel
theorem dX12_refusesTop_4 : decode cX12_refusesTop 4 = .ok (.invokestatic 98, 3) := by decide +kernel
theorem dX12_refusesTop_7 : decode cX12_refusesTop 7 = .ok (.ifCond .ne 5, 3) := by decide +kernel
theorem dX12_refusesTop_10 : decode cX12_refusesTop 10 = .ok (.iconst (-1), 1) := by decide +kernel
theorem dX12_refusesTop_11 : decode cX12_refusesTop 11 = .ok (.ireturn, 1) := by decide +kernel
theorem dX12_refusesTop_12 : decode cX12_refusesTop 12 = .ok (.aload_n 0, 1) := by decide +kernel
theorem dX12_refusesTop_13 : decode cX12_refusesTop 13 = .ok (.getfield 9, 3) := by decide +kernel
theorem dX12_refusesTop_16 : decode cX12_refusesTop 16 = .ok (.bipush 28, 2) := by decide +kernel
theorem dX12_refusesTop_18 : decode cX12_refusesTop 18 = .ok (.iaload, 1) := by decide +kernel
theorem dX12_refusesTop_19 : decode cX12_refusesTop 19 = .ok (.iload_n 1, 1) := by decide +kernel
theorem dX12_refusesTop_20 : decode cX12_refusesTop 20 = .ok (.if_icmp .ne 6, 3) := by decide +kernel
theorem dX12_refusesTop_23 : decode cX12_refusesTop 23 = .ok (.bipush (-2), 2) := by decide +kernel
theorem dX12_refusesTop_25 : decode cX12_refusesTop 25 = .ok (.ireturn, 1) := by decide +kernel
theorem dX12_refusesTop_26 : decode cX12_refusesTop 26 = .ok (.iconst 0, 1) := by decide +kernel
theorem dX12_refusesTop_27 : decode cX12_refusesTop 27 = .ok (.istore_n 2, 1) := by decide +kernel
theorem dX12_refusesTop_28 : decode cX12_refusesTop 28 = .ok (.iload_n 2, 1) := by decide +kernel
theorem dX12_refusesTop_29 : decode cX12_refusesTop 29 = .ok (.aload_n 0, 1) := by decide +kernel
theorem dX12_refusesTop_30 : decode cX12_refusesTop 30 = .ok (.getfield 95, 3) := by decide +kernel
theorem dX12_refusesTop_33 : decode cX12_refusesTop 33 = .ok (.if_icmp .ge 22, 3) := by decide +kernel
theorem dX12_refusesTop_36 : decode cX12_refusesTop 36 = .ok (.aload_n 0, 1) := by decide +kernel
theorem dX12_refusesTop_37 : decode cX12_refusesTop 37 = .ok (.getfield 9, 3) := by decide +kernel
theorem dX12_refusesTop_40 : decode cX12_refusesTop 40 = .ok (.iload_n 2, 1) := by decide +kernel
theorem dX12_refusesTop_41 : decode cX12_refusesTop 41 = .ok (.iaload, 1) := by decide +kernel
theorem dX12_refusesTop_42 : decode cX12_refusesTop 42 = .ok (.iload_n 1, 1) := by decide +kernel
theorem dX12_refusesTop_43 : decode cX12_refusesTop 43 = .ok (.if_icmp .le 6, 3) := by decide +kernel
theorem dX12_refusesTop_46 : decode cX12_refusesTop 46 = .ok (.bipush (-3), 2) := by decide +kernel
theorem dX12_refusesTop_48 : decode cX12_refusesTop 48 = .ok (.ireturn, 1) := by decide +kernel
theorem dX12_refusesTop_49 : decode cX12_refusesTop 49 = .ok (.iinc 2 1, 3) := by decide +kernel
theorem dX12_refusesTop_52 : decode cX12_refusesTop 52 = .ok (.goto (-24), 3) := by decide +kernel
theorem dX12_refusesTop_55 : decode cX12_refusesTop 55 = .ok (.iconst 0, 1) := by decide +kernel
theorem dX12_refusesTop_56 : decode cX12_refusesTop 56 = .ok (.ireturn, 1) := by decide +kernel
theorem dX12_top_0 : decode cX12_top 0 = .ok (.aload_n 0, 1) := by decide +kernel
theorem dX12_top_1 : decode cX12_top 1 = .ok (.iconst 0, 1) := by decide +kernel
theorem dX12_top_2 : decode cX12_top 2 = .ok (.putfield 88, 3) := by decide +kernel
theorem dX12_top_5 : decode cX12_top 5 = .ok (.aload_n 0, 1) := by decide +kernel
theorem dX12_top_6 : decode cX12_top 6 = .ok (.iload_n 1, 1) := by decide +kernel
theorem dX12_top_7 : decode cX12_top 7 = .ok (.invokevirtual 198, 3) := by decide +kernel
theorem dX12_top_10 : decode cX12_top 10 = .ok (.istore_n 2, 1) := by decide +kernel
theorem dX12_top_11 : decode cX12_top 11 = .ok (.iload_n 2, 1) := by decide +kernel
theorem dX12_top_12 : decode cX12_top 12 = .ok (.ifCond .ge 5, 3) := by decide +kernel
theorem dX12_top_15 : decode cX12_top 15 = .ok (.iload_n 2, 1) := by decide +kernel
theorem dX12_top_16 : decode cX12_top 16 = .ok (.ireturn, 1) := by decide +kernel
theorem dX12_top_17 : decode cX12_top 17 = .ok (.aload_n 0, 1) := by decide +kernel
theorem dX12_top_18 : decode cX12_top 18 = .ok (.aload_n 0, 1) := by decide +kernel
theorem dX12_top_19 : decode cX12_top 19 = .ok (.getfield 9, 3) := by decide +kernel
theorem dX12_top_22 : decode cX12_top 22 = .ok (.invokevirtual 201, 3) := by decide +kernel
theorem dX12_top_25 : decode cX12_top 25 = .ok (.aload_n 0, 1) := by decide +kernel
theorem dX12_top_26 : decode cX12_top 26 = .ok (.getfield 9, 3) := by decide +kernel
theorem dX12_top_29 : decode cX12_top 29 = .ok (.bipush 28, 2) := by decide +kernel
theorem dX12_top_31 : decode cX12_top 31 = .ok (.iaload, 1) := by decide +kernel
theorem dX12_top_32 : decode cX12_top 32 = .ok (.istore_n 3, 1) := by decide +kernel
theorem dX12_top_33 : decode cX12_top 33 = .ok (.aload_n 0, 1) := by decide +kernel
theorem dX12_top_34 : decode cX12_top 34 = .ok (.getfield 9, 3) := by decide +kernel
theorem dX12_top_37 : decode cX12_top 37 = .ok (.bipush 28, 2) := by decide +kernel
theorem dX12_top_39 : decode cX12_top 39 = .ok (.iload_n 1, 1) := by decide +kernel
theorem dX12_top_40 : decode cX12_top 40 = .ok (.iastore, 1) := by decide +kernel
theorem dX12_top_41 : decode cX12_top 41 = .ok (.bipush 10, 2) := by decide +kernel
theorem dX12_top_43 : decode cX12_top 43 = .ok (.iload_n 3, 1) := by decide +kernel
theorem dX12_top_44 : decode cX12_top 44 = .ok (.iadd, 1) := by decide +kernel
theorem dX12_top_45 : decode cX12_top 45 = .ok (.ireturn, 1) := by decide +kernel
theorem dX12_climber_0 : decode cX12_climber 0 = .ok (.aload_n 0, 1) := by decide +kernel
theorem dX12_climber_1 : decode cX12_climber 1 = .ok (.iconst 0, 1) := by decide +kernel
theorem dX12_climber_2 : decode cX12_climber 2 = .ok (.putfield 88, 3) := by decide +kernel
theorem dX12_climber_5 : decode cX12_climber 5 = .ok (.aload_n 0, 1) := by decide +kernel
theorem dX12_climber_6 : decode cX12_climber 6 = .ok (.iload_n 1, 1) := by decide +kernel
theorem dX12_climber_7 : decode cX12_climber 7 = .ok (.invokevirtual 205, 3) := by decide +kernel
theorem dX12_climber_10 : decode cX12_climber 10 = .ok (.ifCond .eq 12, 3) := by decide +kernel
theorem dX12_climber_13 : decode cX12_climber 13 = .ok (.iload_n 2, 1) := by decide +kernel
theorem dX12_climber_14 : decode cX12_climber 14 = .ok (.iconst 0, 1) := by decide +kernel
theorem dX12_climber_15 : decode cX12_climber 15 = .ok (.iconst 5, 1) := by decide +kernel
theorem dX12_climber_16 : decode cX12_climber 16 = .ok (.invokestatic 98, 3) := by decide +kernel
theorem dX12_climber_19 : decode cX12_climber 19 = .ok (.ifCond .ne 8, 3) := by decide +kernel
theorem dX12_climber_22 : decode cX12_climber 22 = .ok (.aload_n 0, 1) := by decide +kernel
theorem dX12_climber_23 : decode cX12_climber 23 = .ok (.invokevirtual 209, 3) := by decide +kernel
theorem dX12_climber_26 : decode cX12_climber 26 = .ok (.ireturn, 1) := by decide +kernel
theorem dX12_climber_27 : decode cX12_climber 27 = .ok (.iload_n 2, 1) := by decide +kernel
theorem dX12_climber_28 : decode cX12_climber 28 = .ok (.ifCond .ne 12, 3) := by decide +kernel
theorem dX12_climber_31 : decode cX12_climber 31 = .ok (.aload_n 0, 1) := by decide +kernel
theorem dX12_climber_32 : decode cX12_climber 32 = .ok (.getfield 13, 3) := by decide +kernel
theorem dX12_climber_35 : decode cX12_climber 35 = .ok (.iload_n 1, 1) := by decide +kernel
theorem dX12_climber_36 : decode cX12_climber 36 = .ok (.iaload, 1) := by decide +kernel
theorem dX12_climber_37 : decode cX12_climber 37 = .ok (.goto 33, 3) := by decide +kernel
theorem dX12_climber_40 : decode cX12_climber 40 = .ok (.iload_n 2, 1) := by decide +kernel
theorem dX12_climber_41 : decode cX12_climber 41 = .ok (.iconst 5, 1) := by decide +kernel
theorem dX12_climber_42 : decode cX12_climber 42 = .ok (.if_icmp .ne 15, 3) := by decide +kernel
theorem dX12_climber_45 : decode cX12_climber 45 = .ok (.aload_n 0, 1) := by decide +kernel
theorem dX12_climber_46 : decode cX12_climber 46 = .ok (.aload_n 0, 1) := by decide +kernel
theorem dX12_climber_47 : decode cX12_climber 47 = .ok (.getfield 9, 3) := by decide +kernel
theorem dX12_climber_50 : decode cX12_climber 50 = .ok (.iload_n 1, 1) := by decide +kernel
theorem dX12_climber_51 : decode cX12_climber 51 = .ok (.invokevirtual 212, 3) := by decide +kernel
theorem dX12_climber_54 : decode cX12_climber 54 = .ok (.goto 16, 3) := by decide +kernel
theorem dX12_climber_57 : decode cX12_climber 57 = .ok (.aload_n 0, 1) := by decide +kernel
theorem dX12_climber_58 : decode cX12_climber 58 = .ok (.getfield 9, 3) := by decide +kernel
theorem dX12_climber_61 : decode cX12_climber 61 = .ok (.bipush 7, 2) := by decide +kernel
theorem dX12_climber_63 : decode cX12_climber 63 = .ok (.iload_n 2, 1) := by decide +kernel
theorem dX12_climber_64 : decode cX12_climber 64 = .ok (.iconst 1, 1) := by decide +kernel
theorem dX12_climber_65 : decode cX12_climber 65 = .ok (.isub, 1) := by decide +kernel
theorem dX12_climber_66 : decode cX12_climber 66 = .ok (.imul, 1) := by decide +kernel
theorem dX12_climber_67 : decode cX12_climber 67 = .ok (.iload_n 1, 1) := by decide +kernel
theorem dX12_climber_68 : decode cX12_climber 68 = .ok (.iadd, 1) := by decide +kernel
theorem dX12_climber_69 : decode cX12_climber 69 = .ok (.iaload, 1) := by decide +kernel
theorem dX12_climber_70 : decode cX12_climber 70 = .ok (.ireturn, 1) := by decide +kernel
theorem dX12_paces_0 : decode cX12_paces 0 = .ok (.iconst 0, 1) := by decide +kernel
theorem dX12_paces_1 : decode cX12_paces 1 = .ok (.istore_n 1, 1) := by decide +kernel
theorem dX12_paces_2 : decode cX12_paces 2 = .ok (.iconst 0, 1) := by decide +kernel
theorem dX12_paces_3 : decode cX12_paces 3 = .ok (.istore_n 2, 1) := by decide +kernel
theorem dX12_paces_4 : decode cX12_paces 4 = .ok (.iload_n 2, 1) := by decide +kernel
theorem dX12_paces_5 : decode cX12_paces 5 = .ok (.aload_n 0, 1) := by decide +kernel
theorem dX12_paces_6 : decode cX12_paces 6 = .ok (.getfield 95, 3) := by decide +kernel
theorem dX12_paces_9 : decode cX12_paces 9 = .ok (.if_icmp .ge 18, 3) := by decide +kernel
theorem dX12_paces_12 : decode cX12_paces 12 = .ok (.iload_n 1, 1) := by decide +kernel
theorem dX12_paces_13 : decode cX12_paces 13 = .ok (.aload_n 0, 1) := by decide +kernel
theorem dX12_paces_14 : decode cX12_paces 14 = .ok (.getfield 13, 3) := by decide +kernel
theorem dX12_paces_17 : decode cX12_paces 17 = .ok (.iload_n 2, 1) := by decide +kernel
theorem dX12_paces_18 : decode cX12_paces 18 = .ok (.iaload, 1) := by decide +kernel
theorem dX12_paces_19 : decode cX12_paces 19 = .ok (.iadd, 1) := by decide +kernel
theorem dX12_paces_20 : decode cX12_paces 20 = .ok (.istore_n 1, 1) := by decide +kernel
theorem dX12_paces_21 : decode cX12_paces 21 = .ok (.iinc 2 1, 3) := by decide +kernel
theorem dX12_paces_24 : decode cX12_paces 24 = .ok (.goto (-20), 3) := by decide +kernel
theorem dX12_paces_27 : decode cX12_paces 27 = .ok (.iload_n 1, 1) := by decide +kernel
theorem dX12_paces_28 : decode cX12_paces 28 = .ok (.ireturn, 1) := by decide +kernel
theorem dX12_sheet_0 : decode cX12_sheet 0 = .ok (.aload_n 0, 1) := by decide +kernel
theorem dX12_sheet_1 : decode cX12_sheet 1 = .ok (.iconst 0, 1) := by decide +kernel
theorem dX12_sheet_2 : decode cX12_sheet 2 = .ok (.putfield 88, 3) := by decide +kernel
theorem dX12_sheet_5 : decode cX12_sheet 5 = .ok (.iload_n 1, 1) := by decide +kernel
theorem dX12_sheet_6 : decode cX12_sheet 6 = .ok (.iconst 0, 1) := by decide +kernel
theorem dX12_sheet_7 : decode cX12_sheet 7 = .ok (.iconst 3, 1) := by decide +kernel
theorem dX12_sheet_8 : decode cX12_sheet 8 = .ok (.invokestatic 98, 3) := by decide +kernel
theorem dX12_sheet_11 : decode cX12_sheet 11 = .ok (.ifCond .eq 9, 3) := by decide +kernel
theorem dX12_sheet_14 : decode cX12_sheet 14 = .ok (.iload_n 2, 1) := by decide +kernel
theorem dX12_sheet_15 : decode cX12_sheet 15 = .ok (.bipush 7, 2) := by decide +kernel
theorem dX12_sheet_17 : decode cX12_sheet 17 = .ok (.if_icmp .le 5, 3) := by decide +kernel
theorem dX12_sheet_20 : decode cX12_sheet 20 = .ok (.iconst (-1), 1) := by decide +kernel
theorem dX12_sheet_21 : decode cX12_sheet 21 = .ok (.ireturn, 1) := by decide +kernel
theorem dX12_sheet_22 : decode cX12_sheet 22 = .ok (.iload_n 1, 1) := by decide +kernel
theorem dX12_sheet_23 : decode cX12_sheet 23 = .ok (.iconst 3, 1) := by decide +kernel
theorem dX12_sheet_24 : decode cX12_sheet 24 = .ok (.if_icmp .ge 10, 3) := by decide +kernel
theorem dX12_sheet_27 : decode cX12_sheet 27 = .ok (.iload_n 2, 1) := by decide +kernel
theorem dX12_sheet_28 : decode cX12_sheet 28 = .ok (.ifCond .ge 6, 3) := by decide +kernel
theorem dX12_sheet_31 : decode cX12_sheet 31 = .ok (.bipush (-2), 2) := by decide +kernel
theorem dX12_sheet_33 : decode cX12_sheet 33 = .ok (.ireturn, 1) := by decide +kernel
theorem dX12_sheet_34 : decode cX12_sheet 34 = .ok (.iload_n 3, 1) := by decide +kernel
theorem dX12_sheet_35 : decode cX12_sheet 35 = .ok (.istore 5, 2) := by decide +kernel
theorem dX12_sheet_37 : decode cX12_sheet 37 = .ok (.iconst 0, 1) := by decide +kernel
theorem dX12_sheet_38 : decode cX12_sheet 38 = .ok (.istore 6, 2) := by decide +kernel
theorem dX12_sheet_40 : decode cX12_sheet 40 = .ok (.iload 6, 2) := by decide +kernel
theorem dX12_sheet_42 : decode cX12_sheet 42 = .ok (.aload_n 0, 1) := by decide +kernel
theorem dX12_sheet_43 : decode cX12_sheet 43 = .ok (.getfield 95, 3) := by decide +kernel
theorem dX12_sheet_46 : decode cX12_sheet 46 = .ok (.if_icmp .ge 74, 3) := by decide +kernel
theorem dX12_sheet_49 : decode cX12_sheet 49 = .ok (.iload_n 1, 1) := by decide +kernel
theorem dX12_sheet_50 : decode cX12_sheet 50 = .ok (.ifCond .ne 9, 3) := by decide +kernel
theorem dX12_sheet_53 : decode cX12_sheet 53 = .ok (.iload 5, 2) := by decide +kernel
theorem dX12_sheet_55 : decode cX12_sheet 55 = .ok (.i2b, 1) := by decide +kernel
theorem dX12_sheet_56 : decode cX12_sheet 56 = .ok (.goto 16, 3) := by decide +kernel
theorem dX12_sheet_59 : decode cX12_sheet 59 = .ok (.iload_n 1, 1) := by decide +kernel
theorem dX12_sheet_60 : decode cX12_sheet 60 = .ok (.iconst 1, 1) := by decide +kernel
theorem dX12_sheet_61 : decode cX12_sheet 61 = .ok (.if_icmp .ne 9, 3) := by decide +kernel
theorem dX12_sheet_64 : decode cX12_sheet 64 = .ok (.iload 5, 2) := by decide +kernel
theorem dX12_sheet_66 : decode cX12_sheet 66 = .ok (.i2s, 1) := by decide +kernel
theorem dX12_sheet_67 : decode cX12_sheet 67 = .ok (.goto 5, 3) := by decide +kernel
theorem dX12_sheet_70 : decode cX12_sheet 70 = .ok (.iload 5, 2) := by decide +kernel
theorem dX12_sheet_72 : decode cX12_sheet 72 = .ok (.istore 7, 2) := by decide +kernel
theorem dX12_sheet_74 : decode cX12_sheet 74 = .ok (.aload_n 0, 1) := by decide +kernel
theorem dX12_sheet_75 : decode cX12_sheet 75 = .ok (.getfield 13, 3) := by decide +kernel
theorem dX12_sheet_78 : decode cX12_sheet 78 = .ok (.iload 6, 2) := by decide +kernel
theorem dX12_sheet_80 : decode cX12_sheet 80 = .ok (.iload_n 1, 1) := by decide +kernel
theorem dX12_sheet_81 : decode cX12_sheet 81 = .ok (.iconst 3, 1) := by decide +kernel
theorem dX12_sheet_82 : decode cX12_sheet 82 = .ok (.if_icmp .eq 9, 3) := by decide +kernel
theorem dX12_sheet_85 : decode cX12_sheet 85 = .ok (.iload 6, 2) := by decide +kernel
theorem dX12_sheet_87 : decode cX12_sheet 87 = .ok (.iload_n 2, 1) := by decide +kernel
theorem dX12_sheet_88 : decode cX12_sheet 88 = .ok (.if_icmp .lt 7, 3) := by decide +kernel
theorem dX12_sheet_91 : decode cX12_sheet 91 = .ok (.iconst 0, 1) := by decide +kernel
theorem dX12_sheet_92 : decode cX12_sheet 92 = .ok (.goto 14, 3) := by decide +kernel
theorem dX12_sheet_95 : decode cX12_sheet 95 = .ok (.iconst 0, 1) := by decide +kernel
theorem dX12_sheet_96 : decode cX12_sheet 96 = .ok (.bipush 9, 2) := by decide +kernel
theorem dX12_sheet_98 : decode cX12_sheet 98 = .ok (.iload 7, 2) := by decide +kernel
theorem dX12_sheet_100 : decode cX12_sheet 100 = .ok (.invokestatic 189, 3) := by decide +kernel
theorem dX12_sheet_103 : decode cX12_sheet 103 = .ok (.invokestatic 195, 3) := by decide +kernel
theorem dX12_sheet_106 : decode cX12_sheet 106 = .ok (.iastore, 1) := by decide +kernel
theorem dX12_sheet_107 : decode cX12_sheet 107 = .ok (.iload 5, 2) := by decide +kernel
theorem dX12_sheet_109 : decode cX12_sheet 109 = .ok (.iload 4, 2) := by decide +kernel
theorem dX12_sheet_111 : decode cX12_sheet 111 = .ok (.iadd, 1) := by decide +kernel
theorem dX12_sheet_112 : decode cX12_sheet 112 = .ok (.istore 5, 2) := by decide +kernel
theorem dX12_sheet_114 : decode cX12_sheet 114 = .ok (.iinc 6 1, 3) := by decide +kernel
theorem dX12_sheet_117 : decode cX12_sheet 117 = .ok (.goto (-77), 3) := by decide +kernel
theorem dX12_sheet_120 : decode cX12_sheet 120 = .ok (.iload_n 1, 1) := by decide +kernel
theorem dX12_sheet_121 : decode cX12_sheet 121 = .ok (.iconst 3, 1) := by decide +kernel
theorem dX12_sheet_122 : decode cX12_sheet 122 = .ok (.if_icmp .ne 8, 3) := by decide +kernel
theorem dX12_sheet_125 : decode cX12_sheet 125 = .ok (.bipush (-3), 2) := by decide +kernel
theorem dX12_sheet_127 : decode cX12_sheet 127 = .ok (.goto 7, 3) := by decide +kernel
theorem dX12_sheet_130 : decode cX12_sheet 130 = .ok (.aload_n 0, 1) := by decide +kernel
theorem dX12_sheet_131 : decode cX12_sheet 131 = .ok (.invokevirtual 216, 3) := by decide +kernel
theorem dX12_sheet_134 : decode cX12_sheet 134 = .ok (.ireturn, 1) := by decide +kernel
theorem dX12_lay_0 : decode cX12_lay 0 = .ok (.iconst 0, 1) := by decide +kernel
theorem dX12_lay_1 : decode cX12_lay 1 = .ok (.istore_n 3, 1) := by decide +kernel
theorem dX12_lay_2 : decode cX12_lay 2 = .ok (.iload_n 3, 1) := by decide +kernel
theorem dX12_lay_3 : decode cX12_lay 3 = .ok (.bipush 32, 2) := by decide +kernel
theorem dX12_lay_5 : decode cX12_lay 5 = .ok (.if_icmp .ge 17, 3) := by decide +kernel
theorem dX12_lay_8 : decode cX12_lay 8 = .ok (.aload_n 1, 1) := by decide +kernel
theorem dX12_lay_9 : decode cX12_lay 9 = .ok (.iload_n 2, 1) := by decide +kernel
theorem dX12_lay_10 : decode cX12_lay 10 = .ok (.iload_n 3, 1) := by decide +kernel
theorem dX12_lay_11 : decode cX12_lay 11 = .ok (.iadd, 1) := by decide +kernel
theorem dX12_lay_12 : decode cX12_lay 12 = .ok (.aload_n 0, 1) := by decide +kernel
theorem dX12_lay_13 : decode cX12_lay 13 = .ok (.iload_n 3, 1) := by decide +kernel
theorem dX12_lay_14 : decode cX12_lay 14 = .ok (.iaload, 1) := by decide +kernel
theorem dX12_lay_15 : decode cX12_lay 15 = .ok (.iastore, 1) := by decide +kernel
theorem dX12_lay_16 : decode cX12_lay 16 = .ok (.iinc 3 1, 3) := by decide +kernel
theorem dX12_lay_19 : decode cX12_lay 19 = .ok (.goto (-17), 3) := by decide +kernel
theorem dX12_lay_22 : decode cX12_lay 22 = .ok (.return_, 1) := by decide +kernel
theorem dX12_remember_0 : decode cX12_remember 0 = .ok (.aload_n 0, 1) := by decide +kernel
theorem dX12_remember_1 : decode cX12_remember 1 = .ok (.getfield 150, 3) := by decide +kernel
theorem dX12_remember_4 : decode cX12_remember 4 = .ok (.bipush 12, 2) := by decide +kernel
theorem dX12_remember_6 : decode cX12_remember 6 = .ok (.if_icmp .ne 43, 3) := by decide +kernel
theorem dX12_remember_9 : decode cX12_remember 9 = .ok (.iconst 0, 1) := by decide +kernel
theorem dX12_remember_10 : decode cX12_remember 10 = .ok (.istore_n 2, 1) := by decide +kernel
theorem dX12_remember_11 : decode cX12_remember 11 = .ok (.iload_n 2, 1) := by decide +kernel
theorem dX12_remember_12 : decode cX12_remember 12 = .ok (.sipush 352, 3) := by decide +kernel
theorem dX12_remember_15 : decode cX12_remember 15 = .ok (.if_icmp .ge 24, 3) := by decide +kernel
theorem dX12_remember_18 : decode cX12_remember 18 = .ok (.aload_n 0, 1) := by decide +kernel
theorem dX12_remember_19 : decode cX12_remember 19 = .ok (.getfield 36, 3) := by decide +kernel
theorem dX12_remember_22 : decode cX12_remember 22 = .ok (.iload_n 2, 1) := by decide +kernel
theorem dX12_remember_23 : decode cX12_remember 23 = .ok (.aload_n 0, 1) := by decide +kernel
theorem dX12_remember_24 : decode cX12_remember 24 = .ok (.getfield 36, 3) := by decide +kernel
theorem dX12_remember_27 : decode cX12_remember 27 = .ok (.iload_n 2, 1) := by decide +kernel
theorem dX12_remember_28 : decode cX12_remember 28 = .ok (.bipush 32, 2) := by decide +kernel
theorem dX12_remember_30 : decode cX12_remember 30 = .ok (.iadd, 1) := by decide +kernel
theorem dX12_remember_31 : decode cX12_remember 31 = .ok (.iaload, 1) := by decide +kernel
theorem dX12_remember_32 : decode cX12_remember 32 = .ok (.iastore, 1) := by decide +kernel
theorem dX12_remember_33 : decode cX12_remember 33 = .ok (.iinc 2 1, 3) := by decide +kernel
theorem dX12_remember_36 : decode cX12_remember 36 = .ok (.goto (-25), 3) := by decide +kernel
theorem dX12_remember_39 : decode cX12_remember 39 = .ok (.aload_n 0, 1) := by decide +kernel
theorem dX12_remember_40 : decode cX12_remember 40 = .ok (.dup, 1) := by decide +kernel
theorem dX12_remember_41 : decode cX12_remember 41 = .ok (.getfield 150, 3) := by decide +kernel
theorem dX12_remember_44 : decode cX12_remember 44 = .ok (.iconst 1, 1) := by decide +kernel
theorem dX12_remember_45 : decode cX12_remember 45 = .ok (.isub, 1) := by decide +kernel
theorem dX12_remember_46 : decode cX12_remember 46 = .ok (.putfield 150, 3) := by decide +kernel
theorem dX12_remember_49 : decode cX12_remember 49 = .ok (.aload_n 1, 1) := by decide +kernel
theorem dX12_remember_50 : decode cX12_remember 50 = .ok (.aload_n 0, 1) := by decide +kernel
theorem dX12_remember_51 : decode cX12_remember 51 = .ok (.getfield 36, 3) := by decide +kernel
theorem dX12_remember_54 : decode cX12_remember 54 = .ok (.bipush 32, 2) := by decide +kernel
theorem dX12_remember_56 : decode cX12_remember 56 = .ok (.aload_n 0, 1) := by decide +kernel
theorem dX12_remember_57 : decode cX12_remember 57 = .ok (.getfield 150, 3) := by decide +kernel
theorem dX12_remember_60 : decode cX12_remember 60 = .ok (.imul, 1) := by decide +kernel
theorem dX12_remember_61 : decode cX12_remember 61 = .ok (.invokestatic 219, 3) := by decide +kernel
theorem dX12_remember_64 : decode cX12_remember 64 = .ok (.aload_n 0, 1) := by decide +kernel
theorem dX12_remember_65 : decode cX12_remember 65 = .ok (.dup, 1) := by decide +kernel
theorem dX12_remember_66 : decode cX12_remember 66 = .ok (.getfield 150, 3) := by decide +kernel
theorem dX12_remember_69 : decode cX12_remember 69 = .ok (.iconst 1, 1) := by decide +kernel
theorem dX12_remember_70 : decode cX12_remember 70 = .ok (.iadd, 1) := by decide +kernel
theorem dX12_remember_71 : decode cX12_remember 71 = .ok (.putfield 150, 3) := by decide +kernel
theorem dX12_remember_74 : decode cX12_remember 74 = .ok (.return_, 1) := by decide +kernel
theorem dX12_comeDown_0 : decode cX12_comeDown 0 = .ok (.aload_n 1, 1) := by decide +kernel
theorem dX12_comeDown_1 : decode cX12_comeDown 1 = .ok (.bipush 7, 2) := by decide +kernel
theorem dX12_comeDown_3 : decode cX12_comeDown 3 = .ok (.iload_n 2, 1) := by decide +kernel
theorem dX12_comeDown_4 : decode cX12_comeDown 4 = .ok (.iadd, 1) := by decide +kernel
theorem dX12_comeDown_5 : decode cX12_comeDown 5 = .ok (.iconst 0, 1) := by decide +kernel
theorem dX12_comeDown_6 : decode cX12_comeDown 6 = .ok (.iastore, 1) := by decide +kernel
theorem dX12_comeDown_7 : decode cX12_comeDown 7 = .ok (.aload_n 1, 1) := by decide +kernel
theorem dX12_comeDown_8 : decode cX12_comeDown 8 = .ok (.bipush 29, 2) := by decide +kernel
theorem dX12_comeDown_10 : decode cX12_comeDown 10 = .ok (.iload_n 2, 1) := by decide +kernel
theorem dX12_comeDown_11 : decode cX12_comeDown 11 = .ok (.iastore, 1) := by decide +kernel
theorem dX12_comeDown_12 : decode cX12_comeDown 12 = .ok (.aload_n 1, 1) := by decide +kernel
theorem dX12_comeDown_13 : decode cX12_comeDown 13 = .ok (.bipush 31, 2) := by decide +kernel
theorem dX12_comeDown_15 : decode cX12_comeDown 15 = .ok (.sipush 9999, 3) := by decide +kernel
theorem dX12_comeDown_18 : decode cX12_comeDown 18 = .ok (.aload_n 1, 1) := by decide +kernel
theorem dX12_comeDown_19 : decode cX12_comeDown 19 = .ok (.bipush 31, 2) := by decide +kernel
theorem dX12_comeDown_21 : decode cX12_comeDown 21 = .ok (.iaload, 1) := by decide +kernel
theorem dX12_comeDown_22 : decode cX12_comeDown 22 = .ok (.iconst 1, 1) := by decide +kernel
theorem dX12_comeDown_23 : decode cX12_comeDown 23 = .ok (.iadd, 1) := by decide +kernel
theorem dX12_comeDown_24 : decode cX12_comeDown 24 = .ok (.invokestatic 189, 3) := by decide +kernel
theorem dX12_comeDown_27 : decode cX12_comeDown 27 = .ok (.iastore, 1) := by decide +kernel
theorem dX12_comeDown_28 : decode cX12_comeDown 28 = .ok (.aload_n 0, 1) := by decide +kernel
theorem dX12_comeDown_29 : decode cX12_comeDown 29 = .ok (.getfield 223, 3) := by decide +kernel
theorem dX12_comeDown_32 : decode cX12_comeDown 32 = .ok (.bipush 12, 2) := by decide +kernel
theorem dX12_comeDown_34 : decode cX12_comeDown 34 = .ok (.if_icmp .ge 13, 3) := by decide +kernel
theorem dX12_comeDown_37 : decode cX12_comeDown 37 = .ok (.aload_n 0, 1) := by decide +kernel
theorem dX12_comeDown_38 : decode cX12_comeDown 38 = .ok (.getfield 48, 3) := by decide +kernel
theorem dX12_comeDown_41 : decode cX12_comeDown 41 = .ok (.aload_n 0, 1) := by decide +kernel
theorem dX12_comeDown_42 : decode cX12_comeDown 42 = .ok (.getfield 223, 3) := by decide +kernel
theorem dX12_comeDown_45 : decode cX12_comeDown 45 = .ok (.iload_n 2, 1) := by decide +kernel
theorem dX12_comeDown_46 : decode cX12_comeDown 46 = .ok (.iastore, 1) := by decide +kernel
theorem dX12_comeDown_47 : decode cX12_comeDown 47 = .ok (.aload_n 0, 1) := by decide +kernel
theorem dX12_comeDown_48 : decode cX12_comeDown 48 = .ok (.dup, 1) := by decide +kernel
theorem dX12_comeDown_49 : decode cX12_comeDown 49 = .ok (.getfield 223, 3) := by decide +kernel
theorem dX12_comeDown_52 : decode cX12_comeDown 52 = .ok (.iconst 1, 1) := by decide +kernel
theorem dX12_comeDown_53 : decode cX12_comeDown 53 = .ok (.iadd, 1) := by decide +kernel
theorem dX12_comeDown_54 : decode cX12_comeDown 54 = .ok (.putfield 223, 3) := by decide +kernel
theorem dX12_comeDown_57 : decode cX12_comeDown 57 = .ok (.return_, 1) := by decide +kernel
theorem dX12_goHour_0 : decode cX12_goHour 0 = .ok (.iconst 0, 1) := by decide +kernel
theorem dX12_goHour_1 : decode cX12_goHour 1 = .ok (.istore_n 2, 1) := by decide +kernel
theorem dX12_goHour_2 : decode cX12_goHour 2 = .ok (.iload_n 2, 1) := by decide +kernel
theorem dX12_goHour_3 : decode cX12_goHour 3 = .ok (.aload_n 0, 1) := by decide +kernel
theorem dX12_goHour_4 : decode cX12_goHour 4 = .ok (.getfield 95, 3) := by decide +kernel
theorem dX12_goHour_7 : decode cX12_goHour 7 = .ok (.if_icmp .ge 43, 3) := by decide +kernel
theorem dX12_goHour_10 : decode cX12_goHour 10 = .ok (.aload_n 0, 1) := by decide +kernel
theorem dX12_goHour_11 : decode cX12_goHour 11 = .ok (.getfield 45, 3) := by decide +kernel
theorem dX12_goHour_14 : decode cX12_goHour 14 = .ok (.iload_n 2, 1) := by decide +kernel
theorem dX12_goHour_15 : decode cX12_goHour 15 = .ok (.aload_n 1, 1) := by decide +kernel
theorem dX12_goHour_16 : decode cX12_goHour 16 = .ok (.bipush 7, 2) := by decide +kernel
theorem dX12_goHour_18 : decode cX12_goHour 18 = .ok (.iload_n 2, 1) := by decide +kernel
theorem dX12_goHour_19 : decode cX12_goHour 19 = .ok (.iadd, 1) := by decide +kernel
theorem dX12_goHour_20 : decode cX12_goHour 20 = .ok (.iaload, 1) := by decide +kernel
theorem dX12_goHour_21 : decode cX12_goHour 21 = .ok (.ifCond .eq 21, 3) := by decide +kernel
theorem dX12_goHour_24 : decode cX12_goHour 24 = .ok (.aload_n 1, 1) := by decide +kernel
theorem dX12_goHour_25 : decode cX12_goHour 25 = .ok (.bipush 14, 2) := by decide +kernel
theorem dX12_goHour_27 : decode cX12_goHour 27 = .ok (.iload_n 2, 1) := by decide +kernel
theorem dX12_goHour_28 : decode cX12_goHour 28 = .ok (.iadd, 1) := by decide +kernel
theorem dX12_goHour_29 : decode cX12_goHour 29 = .ok (.iaload, 1) := by decide +kernel
theorem dX12_goHour_30 : decode cX12_goHour 30 = .ok (.ifCond .ne 12, 3) := by decide +kernel
theorem dX12_goHour_33 : decode cX12_goHour 33 = .ok (.aload_n 0, 1) := by decide +kernel
theorem dX12_goHour_34 : decode cX12_goHour 34 = .ok (.aload_n 1, 1) := by decide +kernel
theorem dX12_goHour_35 : decode cX12_goHour 35 = .ok (.iload_n 2, 1) := by decide +kernel
theorem dX12_goHour_36 : decode cX12_goHour 36 = .ok (.invokevirtual 212, 3) := by decide +kernel
theorem dX12_goHour_39 : decode cX12_goHour 39 = .ok (.goto 4, 3) := by decide +kernel
theorem dX12_goHour_42 : decode cX12_goHour 42 = .ok (.iconst 0, 1) := by decide +kernel
theorem dX12_goHour_43 : decode cX12_goHour 43 = .ok (.iastore, 1) := by decide +kernel
theorem dX12_goHour_44 : decode cX12_goHour 44 = .ok (.iinc 2 1, 3) := by decide +kernel
theorem dX12_goHour_47 : decode cX12_goHour 47 = .ok (.goto (-45), 3) := by decide +kernel
theorem dX12_goHour_50 : decode cX12_goHour 50 = .ok (.iconst 0, 1) := by decide +kernel
theorem dX12_goHour_51 : decode cX12_goHour 51 = .ok (.istore_n 2, 1) := by decide +kernel
theorem dX12_goHour_52 : decode cX12_goHour 52 = .ok (.iload_n 2, 1) := by decide +kernel
theorem dX12_goHour_53 : decode cX12_goHour 53 = .ok (.aload_n 0, 1) := by decide +kernel
theorem dX12_goHour_54 : decode cX12_goHour 54 = .ok (.getfield 95, 3) := by decide +kernel
theorem dX12_goHour_57 : decode cX12_goHour 57 = .ok (.if_icmp .ge 112, 3) := by decide +kernel
theorem dX12_goHour_60 : decode cX12_goHour 60 = .ok (.aload_n 1, 1) := by decide +kernel
theorem dX12_goHour_61 : decode cX12_goHour 61 = .ok (.bipush 14, 2) := by decide +kernel
theorem dX12_goHour_63 : decode cX12_goHour 63 = .ok (.iload_n 2, 1) := by decide +kernel
theorem dX12_goHour_64 : decode cX12_goHour 64 = .ok (.iadd, 1) := by decide +kernel
theorem dX12_goHour_65 : decode cX12_goHour 65 = .ok (.iaload, 1) := by decide +kernel
theorem dX12_goHour_66 : decode cX12_goHour 66 = .ok (.ifCond .le 13, 3) := by decide +kernel
theorem dX12_goHour_69 : decode cX12_goHour 69 = .ok (.aload_n 1, 1) := by decide +kernel
theorem dX12_goHour_70 : decode cX12_goHour 70 = .ok (.bipush 14, 2) := by decide +kernel
theorem dX12_goHour_72 : decode cX12_goHour 72 = .ok (.iload_n 2, 1) := by decide +kernel
theorem dX12_goHour_73 : decode cX12_goHour 73 = .ok (.iadd, 1) := by decide +kernel
theorem dX12_goHour_74 : decode cX12_goHour 74 = .ok (.dup2, 1) := by decide +kernel
theorem dX12_goHour_75 : decode cX12_goHour 75 = .ok (.iaload, 1) := by decide +kernel
theorem dX12_goHour_76 : decode cX12_goHour 76 = .ok (.iconst 1, 1) := by decide +kernel
theorem dX12_goHour_77 : decode cX12_goHour 77 = .ok (.isub, 1) := by decide +kernel
theorem dX12_goHour_78 : decode cX12_goHour 78 = .ok (.iastore, 1) := by decide +kernel
theorem dX12_goHour_79 : decode cX12_goHour 79 = .ok (.aload_n 1, 1) := by decide +kernel
theorem dX12_goHour_80 : decode cX12_goHour 80 = .ok (.bipush 7, 2) := by decide +kernel
theorem dX12_goHour_82 : decode cX12_goHour 82 = .ok (.iload_n 2, 1) := by decide +kernel
theorem dX12_goHour_83 : decode cX12_goHour 83 = .ok (.iadd, 1) := by decide +kernel
theorem dX12_goHour_84 : decode cX12_goHour 84 = .ok (.iaload, 1) := by decide +kernel
theorem dX12_goHour_85 : decode cX12_goHour 85 = .ok (.iconst 1, 1) := by decide +kernel
theorem dX12_goHour_86 : decode cX12_goHour 86 = .ok (.if_icmp .ne 23, 3) := by decide +kernel
theorem dX12_goHour_89 : decode cX12_goHour 89 = .ok (.aload_n 1, 1) := by decide +kernel
theorem dX12_goHour_90 : decode cX12_goHour 90 = .ok (.iload_n 2, 1) := by decide +kernel
theorem dX12_goHour_91 : decode cX12_goHour 91 = .ok (.aload_n 1, 1) := by decide +kernel
theorem dX12_goHour_92 : decode cX12_goHour 92 = .ok (.bipush 28, 2) := by decide +kernel
theorem dX12_goHour_94 : decode cX12_goHour 94 = .ok (.iaload, 1) := by decide +kernel
theorem dX12_goHour_95 : decode cX12_goHour 95 = .ok (.aload_n 1, 1) := by decide +kernel
theorem dX12_goHour_96 : decode cX12_goHour 96 = .ok (.iload_n 2, 1) := by decide +kernel
theorem dX12_goHour_97 : decode cX12_goHour 97 = .ok (.iaload, 1) := by decide +kernel
theorem dX12_goHour_98 : decode cX12_goHour 98 = .ok (.aload_n 0, 1) := by decide +kernel
theorem dX12_goHour_99 : decode cX12_goHour 99 = .ok (.getfield 45, 3) := by decide +kernel
theorem dX12_goHour_102 : decode cX12_goHour 102 = .ok (.iload_n 2, 1) := by decide +kernel
theorem dX12_goHour_103 : decode cX12_goHour 103 = .ok (.iaload, 1) := by decide +kernel
theorem dX12_goHour_104 : decode cX12_goHour 104 = .ok (.iadd, 1) := by decide +kernel
theorem dX12_goHour_105 : decode cX12_goHour 105 = .ok (.invokestatic 189, 3) := by decide +kernel
theorem dX12_goHour_108 : decode cX12_goHour 108 = .ok (.iastore, 1) := by decide +kernel
theorem dX12_goHour_109 : decode cX12_goHour 109 = .ok (.aload_n 1, 1) := by decide +kernel
theorem dX12_goHour_110 : decode cX12_goHour 110 = .ok (.bipush 7, 2) := by decide +kernel
theorem dX12_goHour_112 : decode cX12_goHour 112 = .ok (.iload_n 2, 1) := by decide +kernel
theorem dX12_goHour_113 : decode cX12_goHour 113 = .ok (.iadd, 1) := by decide +kernel
theorem dX12_goHour_114 : decode cX12_goHour 114 = .ok (.iaload, 1) := by decide +kernel
theorem dX12_goHour_115 : decode cX12_goHour 115 = .ok (.iconst 2, 1) := by decide +kernel
theorem dX12_goHour_116 : decode cX12_goHour 116 = .ok (.if_icmp .ne 20, 3) := by decide +kernel
theorem dX12_goHour_119 : decode cX12_goHour 119 = .ok (.aload_n 1, 1) := by decide +kernel
theorem dX12_goHour_120 : decode cX12_goHour 120 = .ok (.iload_n 2, 1) := by decide +kernel
theorem dX12_goHour_121 : decode cX12_goHour 121 = .ok (.iconst 0, 1) := by decide +kernel
theorem dX12_goHour_122 : decode cX12_goHour 122 = .ok (.aload_n 1, 1) := by decide +kernel
theorem dX12_goHour_123 : decode cX12_goHour 123 = .ok (.iload_n 2, 1) := by decide +kernel
theorem dX12_goHour_124 : decode cX12_goHour 124 = .ok (.iaload, 1) := by decide +kernel
theorem dX12_goHour_125 : decode cX12_goHour 125 = .ok (.aload_n 0, 1) := by decide +kernel
theorem dX12_goHour_126 : decode cX12_goHour 126 = .ok (.getfield 45, 3) := by decide +kernel
theorem dX12_goHour_129 : decode cX12_goHour 129 = .ok (.iload_n 2, 1) := by decide +kernel
theorem dX12_goHour_130 : decode cX12_goHour 130 = .ok (.iaload, 1) := by decide +kernel
theorem dX12_goHour_131 : decode cX12_goHour 131 = .ok (.isub, 1) := by decide +kernel
theorem dX12_goHour_132 : decode cX12_goHour 132 = .ok (.invokestatic 195, 3) := by decide +kernel
theorem dX12_goHour_135 : decode cX12_goHour 135 = .ok (.iastore, 1) := by decide +kernel
theorem dX12_goHour_136 : decode cX12_goHour 136 = .ok (.aload_n 1, 1) := by decide +kernel
theorem dX12_goHour_137 : decode cX12_goHour 137 = .ok (.bipush 7, 2) := by decide +kernel
theorem dX12_goHour_139 : decode cX12_goHour 139 = .ok (.iload_n 2, 1) := by decide +kernel
theorem dX12_goHour_140 : decode cX12_goHour 140 = .ok (.iadd, 1) := by decide +kernel
theorem dX12_goHour_141 : decode cX12_goHour 141 = .ok (.iaload, 1) := by decide +kernel
theorem dX12_goHour_142 : decode cX12_goHour 142 = .ok (.iconst 1, 1) := by decide +kernel
theorem dX12_goHour_143 : decode cX12_goHour 143 = .ok (.if_icmp .ne 20, 3) := by decide +kernel
theorem dX12_goHour_146 : decode cX12_goHour 146 = .ok (.aload_n 1, 1) := by decide +kernel
theorem dX12_goHour_147 : decode cX12_goHour 147 = .ok (.iload_n 2, 1) := by decide +kernel
theorem dX12_goHour_148 : decode cX12_goHour 148 = .ok (.iaload, 1) := by decide +kernel
theorem dX12_goHour_149 : decode cX12_goHour 149 = .ok (.aload_n 1, 1) := by decide +kernel
theorem dX12_goHour_150 : decode cX12_goHour 150 = .ok (.bipush 28, 2) := by decide +kernel
theorem dX12_goHour_152 : decode cX12_goHour 152 = .ok (.iaload, 1) := by decide +kernel
theorem dX12_goHour_153 : decode cX12_goHour 153 = .ok (.if_icmp .ne 10, 3) := by decide +kernel
theorem dX12_goHour_156 : decode cX12_goHour 156 = .ok (.aload_n 1, 1) := by decide +kernel
theorem dX12_goHour_157 : decode cX12_goHour 157 = .ok (.bipush 7, 2) := by decide +kernel
theorem dX12_goHour_159 : decode cX12_goHour 159 = .ok (.iload_n 2, 1) := by decide +kernel
theorem dX12_goHour_160 : decode cX12_goHour 160 = .ok (.iadd, 1) := by decide +kernel
theorem dX12_goHour_161 : decode cX12_goHour 161 = .ok (.iconst 2, 1) := by decide +kernel
theorem dX12_goHour_162 : decode cX12_goHour 162 = .ok (.iastore, 1) := by decide +kernel
theorem dX12_goHour_163 : decode cX12_goHour 163 = .ok (.iinc 2 1, 3) := by decide +kernel
theorem dX12_goHour_166 : decode cX12_goHour 166 = .ok (.goto (-114), 3) := by decide +kernel
theorem dX12_goHour_169 : decode cX12_goHour 169 = .ok (.iconst 0, 1) := by decide +kernel
theorem dX12_goHour_170 : decode cX12_goHour 170 = .ok (.istore_n 2, 1) := by decide +kernel
theorem dX12_goHour_171 : decode cX12_goHour 171 = .ok (.iload_n 2, 1) := by decide +kernel
theorem dX12_goHour_172 : decode cX12_goHour 172 = .ok (.aload_n 0, 1) := by decide +kernel
theorem dX12_goHour_173 : decode cX12_goHour 173 = .ok (.getfield 95, 3) := by decide +kernel
theorem dX12_goHour_176 : decode cX12_goHour 176 = .ok (.if_icmp .ge 31, 3) := by decide +kernel
theorem dX12_goHour_179 : decode cX12_goHour 179 = .ok (.aload_n 1, 1) := by decide +kernel
theorem dX12_goHour_180 : decode cX12_goHour 180 = .ok (.bipush 7, 2) := by decide +kernel
theorem dX12_goHour_182 : decode cX12_goHour 182 = .ok (.iload_n 2, 1) := by decide +kernel
theorem dX12_goHour_183 : decode cX12_goHour 183 = .ok (.iadd, 1) := by decide +kernel
theorem dX12_goHour_184 : decode cX12_goHour 184 = .ok (.iaload, 1) := by decide +kernel
theorem dX12_goHour_185 : decode cX12_goHour 185 = .ok (.iconst 2, 1) := by decide +kernel
theorem dX12_goHour_186 : decode cX12_goHour 186 = .ok (.if_icmp .ne 15, 3) := by decide +kernel
theorem dX12_goHour_189 : decode cX12_goHour 189 = .ok (.aload_n 1, 1) := by decide +kernel
theorem dX12_goHour_190 : decode cX12_goHour 190 = .ok (.iload_n 2, 1) := by decide +kernel
theorem dX12_goHour_191 : decode cX12_goHour 191 = .ok (.iaload, 1) := by decide +kernel
theorem dX12_goHour_192 : decode cX12_goHour 192 = .ok (.ifCond .ne 9, 3) := by decide +kernel
theorem dX12_goHour_195 : decode cX12_goHour 195 = .ok (.aload_n 0, 1) := by decide +kernel
theorem dX12_goHour_196 : decode cX12_goHour 196 = .ok (.aload_n 1, 1) := by decide +kernel
theorem dX12_goHour_197 : decode cX12_goHour 197 = .ok (.iload_n 2, 1) := by decide +kernel
theorem dX12_goHour_198 : decode cX12_goHour 198 = .ok (.invokevirtual 226, 3) := by decide +kernel
theorem dX12_goHour_201 : decode cX12_goHour 201 = .ok (.iinc 2 1, 3) := by decide +kernel
theorem dX12_goHour_204 : decode cX12_goHour 204 = .ok (.goto (-33), 3) := by decide +kernel
theorem dX12_goHour_207 : decode cX12_goHour 207 = .ok (.aload_n 1, 1) := by decide +kernel
theorem dX12_goHour_208 : decode cX12_goHour 208 = .ok (.bipush 29, 2) := by decide +kernel
theorem dX12_goHour_210 : decode cX12_goHour 210 = .ok (.iaload, 1) := by decide +kernel
theorem dX12_goHour_211 : decode cX12_goHour 211 = .ok (.istore_n 2, 1) := by decide +kernel
theorem dX12_goHour_212 : decode cX12_goHour 212 = .ok (.iload_n 2, 1) := by decide +kernel
theorem dX12_goHour_213 : decode cX12_goHour 213 = .ok (.bipush 7, 2) := by decide +kernel
theorem dX12_goHour_215 : decode cX12_goHour 215 = .ok (.if_icmp .eq 23, 3) := by decide +kernel
theorem dX12_goHour_218 : decode cX12_goHour 218 = .ok (.aload_n 1, 1) := by decide +kernel
theorem dX12_goHour_219 : decode cX12_goHour 219 = .ok (.bipush 21, 2) := by decide +kernel
theorem dX12_goHour_221 : decode cX12_goHour 221 = .ok (.iload_n 2, 1) := by decide +kernel
theorem dX12_goHour_222 : decode cX12_goHour 222 = .ok (.iadd, 1) := by decide +kernel
theorem dX12_goHour_223 : decode cX12_goHour 223 = .ok (.sipush 999, 3) := by decide +kernel
theorem dX12_goHour_226 : decode cX12_goHour 226 = .ok (.aload_n 1, 1) := by decide +kernel
theorem dX12_goHour_227 : decode cX12_goHour 227 = .ok (.bipush 21, 2) := by decide +kernel
theorem dX12_goHour_229 : decode cX12_goHour 229 = .ok (.iload_n 2, 1) := by decide +kernel
theorem dX12_goHour_230 : decode cX12_goHour 230 = .ok (.iadd, 1) := by decide +kernel
theorem dX12_goHour_231 : decode cX12_goHour 231 = .ok (.iaload, 1) := by decide +kernel
theorem dX12_goHour_232 : decode cX12_goHour 232 = .ok (.iconst 1, 1) := by decide +kernel
theorem dX12_goHour_233 : decode cX12_goHour 233 = .ok (.iadd, 1) := by decide +kernel
theorem dX12_goHour_234 : decode cX12_goHour 234 = .ok (.invokestatic 189, 3) := by decide +kernel
theorem dX12_goHour_237 : decode cX12_goHour 237 = .ok (.iastore, 1) := by decide +kernel
theorem dX12_goHour_238 : decode cX12_goHour 238 = .ok (.aload_n 1, 1) := by decide +kernel
theorem dX12_goHour_239 : decode cX12_goHour 239 = .ok (.bipush 30, 2) := by decide +kernel
theorem dX12_goHour_241 : decode cX12_goHour 241 = .ok (.dup2, 1) := by decide +kernel
theorem dX12_goHour_242 : decode cX12_goHour 242 = .ok (.iaload, 1) := by decide +kernel
theorem dX12_goHour_243 : decode cX12_goHour 243 = .ok (.iconst 1, 1) := by decide +kernel
theorem dX12_goHour_244 : decode cX12_goHour 244 = .ok (.iadd, 1) := by decide +kernel
theorem dX12_goHour_245 : decode cX12_goHour 245 = .ok (.iastore, 1) := by decide +kernel
theorem dX12_goHour_246 : decode cX12_goHour 246 = .ok (.return_, 1) := by decide +kernel
theorem dX12_goHours_0 : decode cX12_goHours 0 = .ok (.aload_n 0, 1) := by decide +kernel
theorem dX12_goHours_1 : decode cX12_goHours 1 = .ok (.iconst 0, 1) := by decide +kernel
theorem dX12_goHours_2 : decode cX12_goHours 2 = .ok (.putfield 223, 3) := by decide +kernel
theorem dX12_goHours_5 : decode cX12_goHours 5 = .ok (.iconst 0, 1) := by decide +kernel
theorem dX12_goHours_6 : decode cX12_goHours 6 = .ok (.istore_n 3, 1) := by decide +kernel
theorem dX12_goHours_7 : decode cX12_goHours 7 = .ok (.iload_n 3, 1) := by decide +kernel
theorem dX12_goHours_8 : decode cX12_goHours 8 = .ok (.iload_n 2, 1) := by decide +kernel
theorem dX12_goHours_9 : decode cX12_goHours 9 = .ok (.if_icmp .ge 14, 3) := by decide +kernel
theorem dX12_goHours_12 : decode cX12_goHours 12 = .ok (.aload_n 0, 1) := by decide +kernel
theorem dX12_goHours_13 : decode cX12_goHours 13 = .ok (.aload_n 1, 1) := by decide +kernel
theorem dX12_goHours_14 : decode cX12_goHours 14 = .ok (.invokevirtual 230, 3) := by decide +kernel
theorem dX12_goHours_17 : decode cX12_goHours 17 = .ok (.iinc 3 1, 3) := by decide +kernel
theorem dX12_goHours_20 : decode cX12_goHours 20 = .ok (.goto (-13), 3) := by decide +kernel
theorem dX12_goHours_23 : decode cX12_goHours 23 = .ok (.return_, 1) := by decide +kernel
theorem dX12_walking_0 : decode cX12_walking 0 = .ok (.iconst 0, 1) := by decide +kernel
theorem dX12_walking_1 : decode cX12_walking 1 = .ok (.istore_n 2, 1) := by decide +kernel
theorem dX12_walking_2 : decode cX12_walking 2 = .ok (.iconst 0, 1) := by decide +kernel
theorem dX12_walking_3 : decode cX12_walking 3 = .ok (.istore_n 3, 1) := by decide +kernel
theorem dX12_walking_4 : decode cX12_walking 4 = .ok (.iload_n 3, 1) := by decide +kernel
theorem dX12_walking_5 : decode cX12_walking 5 = .ok (.aload_n 0, 1) := by decide +kernel
theorem dX12_walking_6 : decode cX12_walking 6 = .ok (.getfield 95, 3) := by decide +kernel
theorem dX12_walking_9 : decode cX12_walking 9 = .ok (.if_icmp .ge 28, 3) := by decide +kernel
theorem dX12_walking_12 : decode cX12_walking 12 = .ok (.iload_n 2, 1) := by decide +kernel
theorem dX12_walking_13 : decode cX12_walking 13 = .ok (.aload_n 1, 1) := by decide +kernel
theorem dX12_walking_14 : decode cX12_walking 14 = .ok (.bipush 7, 2) := by decide +kernel
theorem dX12_walking_16 : decode cX12_walking 16 = .ok (.iload_n 3, 1) := by decide +kernel
theorem dX12_walking_17 : decode cX12_walking 17 = .ok (.iadd, 1) := by decide +kernel
theorem dX12_walking_18 : decode cX12_walking 18 = .ok (.iaload, 1) := by decide +kernel
theorem dX12_walking_19 : decode cX12_walking 19 = .ok (.ifCond .eq 9, 3) := by decide +kernel
theorem dX12_walking_22 : decode cX12_walking 22 = .ok (.iconst 1, 1) := by decide +kernel
theorem dX12_walking_23 : decode cX12_walking 23 = .ok (.iload_n 3, 1) := by decide +kernel
theorem dX12_walking_24 : decode cX12_walking 24 = .ok (.ishl, 1) := by decide +kernel
theorem dX12_walking_25 : decode cX12_walking 25 = .ok (.goto 4, 3) := by decide +kernel
theorem dX12_walking_28 : decode cX12_walking 28 = .ok (.iconst 0, 1) := by decide +kernel
theorem dX12_walking_29 : decode cX12_walking 29 = .ok (.ior, 1) := by decide +kernel
theorem dX12_walking_30 : decode cX12_walking 30 = .ok (.istore_n 2, 1) := by decide +kernel
theorem dX12_walking_31 : decode cX12_walking 31 = .ok (.iinc 3 1, 3) := by decide +kernel
theorem dX12_walking_34 : decode cX12_walking 34 = .ok (.goto (-30), 3) := by decide +kernel
theorem dX12_walking_37 : decode cX12_walking 37 = .ok (.iload_n 2, 1) := by decide +kernel
theorem dX12_walking_38 : decode cX12_walking 38 = .ok (.ireturn, 1) := by decide +kernel
theorem dX12_hours_0 : decode cX12_hours 0 = .ok (.aload_n 0, 1) := by decide +kernel
theorem dX12_hours_1 : decode cX12_hours 1 = .ok (.iconst 0, 1) := by decide +kernel
theorem dX12_hours_2 : decode cX12_hours 2 = .ok (.putfield 88, 3) := by decide +kernel
theorem dX12_hours_5 : decode cX12_hours 5 = .ok (.iload_n 1, 1) := by decide +kernel
theorem dX12_hours_6 : decode cX12_hours 6 = .ok (.iconst 0, 1) := by decide +kernel
theorem dX12_hours_7 : decode cX12_hours 7 = .ok (.bipush 60, 2) := by decide +kernel
theorem dX12_hours_9 : decode cX12_hours 9 = .ok (.invokestatic 98, 3) := by decide +kernel
theorem dX12_hours_12 : decode cX12_hours 12 = .ok (.ifCond .ne 5, 3) := by decide +kernel
theorem dX12_hours_15 : decode cX12_hours 15 = .ok (.iconst (-1), 1) := by decide +kernel
theorem dX12_hours_16 : decode cX12_hours 16 = .ok (.ireturn, 1) := by decide +kernel
theorem dX12_hours_17 : decode cX12_hours 17 = .ok (.iload_n 1, 1) := by decide +kernel
theorem dX12_hours_18 : decode cX12_hours 18 = .ok (.ifCond .le 11, 3) := by decide +kernel
theorem dX12_hours_21 : decode cX12_hours 21 = .ok (.aload_n 0, 1) := by decide +kernel
theorem dX12_hours_22 : decode cX12_hours 22 = .ok (.aload_n 0, 1) := by decide +kernel
theorem dX12_hours_23 : decode cX12_hours 23 = .ok (.getfield 9, 3) := by decide +kernel
theorem dX12_hours_26 : decode cX12_hours 26 = .ok (.invokevirtual 201, 3) := by decide +kernel
theorem dX12_hours_29 : decode cX12_hours 29 = .ok (.aload_n 0, 1) := by decide +kernel
theorem dX12_hours_30 : decode cX12_hours 30 = .ok (.aload_n 0, 1) := by decide +kernel
theorem dX12_hours_31 : decode cX12_hours 31 = .ok (.getfield 9, 3) := by decide +kernel
theorem dX12_hours_34 : decode cX12_hours 34 = .ok (.iload_n 1, 1) := by decide +kernel
theorem dX12_hours_35 : decode cX12_hours 35 = .ok (.invokevirtual 233, 3) := by decide +kernel
theorem dX12_hours_38 : decode cX12_hours 38 = .ok (.aload_n 0, 1) := by decide +kernel
theorem dX12_hours_39 : decode cX12_hours 39 = .ok (.iconst 0, 1) := by decide +kernel
theorem dX12_hours_40 : decode cX12_hours 40 = .ok (.putfield 92, 3) := by decide +kernel
theorem dX12_hours_43 : decode cX12_hours 43 = .ok (.aload_n 0, 1) := by decide +kernel
theorem dX12_hours_44 : decode cX12_hours 44 = .ok (.aload_n 0, 1) := by decide +kernel
theorem dX12_hours_45 : decode cX12_hours 45 = .ok (.getfield 223, 3) := by decide +kernel
theorem dX12_hours_48 : decode cX12_hours 48 = .ok (.i2l, 1) := by decide +kernel
theorem dX12_hours_49 : decode cX12_hours 49 = .ok (.invokevirtual 236, 3) := by decide +kernel
theorem dX12_hours_52 : decode cX12_hours 52 = .ok (.aload_n 0, 1) := by decide +kernel
theorem dX12_hours_53 : decode cX12_hours 53 = .ok (.aload_n 0, 1) := by decide +kernel
theorem dX12_hours_54 : decode cX12_hours 54 = .ok (.aload_n 0, 1) := by decide +kernel
theorem dX12_hours_55 : decode cX12_hours 55 = .ok (.getfield 9, 3) := by decide +kernel
theorem dX12_hours_58 : decode cX12_hours 58 = .ok (.invokevirtual 240, 3) := by decide +kernel
theorem dX12_hours_61 : decode cX12_hours 61 = .ok (.invokestatic 244, 3) := by decide +kernel
theorem dX12_hours_64 : decode cX12_hours 64 = .ok (.i2l, 1) := by decide +kernel
theorem dX12_hours_65 : decode cX12_hours 65 = .ok (.invokevirtual 236, 3) := by decide +kernel
theorem dX12_hours_68 : decode cX12_hours 68 = .ok (.aload_n 0, 1) := by decide +kernel
theorem dX12_hours_69 : decode cX12_hours 69 = .ok (.getfield 9, 3) := by decide +kernel
theorem dX12_hours_72 : decode cX12_hours 72 = .ok (.bipush 29, 2) := by decide +kernel
theorem dX12_hours_74 : decode cX12_hours 74 = .ok (.iaload, 1) := by decide +kernel
theorem dX12_hours_75 : decode cX12_hours 75 = .ok (.ireturn, 1) := by decide +kernel
theorem dX12_refusesStart_0 : decode cX12_refusesStart 0 = .ok (.aload_n 0, 1) := by decide +kernel
theorem dX12_refusesStart_1 : decode cX12_refusesStart 1 = .ok (.iload_n 2, 1) := by decide +kernel
theorem dX12_refusesStart_2 : decode cX12_refusesStart 2 = .ok (.invokevirtual 205, 3) := by decide +kernel
theorem dX12_refusesStart_5 : decode cX12_refusesStart 5 = .ok (.ifCond .ne 5, 3) := by decide +kernel
theorem dX12_refusesStart_8 : decode cX12_refusesStart 8 = .ok (.iconst (-1), 1) := by decide +kernel
theorem dX12_refusesStart_9 : decode cX12_refusesStart 9 = .ok (.ireturn, 1) := by decide +kernel
theorem dX12_refusesStart_10 : decode cX12_refusesStart 10 = .ok (.aload_n 1, 1) := by decide +kernel
theorem dX12_refusesStart_11 : decode cX12_refusesStart 11 = .ok (.bipush 7, 2) := by decide +kernel
theorem dX12_refusesStart_13 : decode cX12_refusesStart 13 = .ok (.iload_n 2, 1) := by decide +kernel
theorem dX12_refusesStart_14 : decode cX12_refusesStart 14 = .ok (.iadd, 1) := by decide +kernel
theorem dX12_refusesStart_15 : decode cX12_refusesStart 15 = .ok (.iaload, 1) := by decide +kernel
theorem dX12_refusesStart_16 : decode cX12_refusesStart 16 = .ok (.ifCond .eq 8, 3) := by decide +kernel
theorem dX12_refusesStart_19 : decode cX12_refusesStart 19 = .ok (.bipush (-2), 2) := by decide +kernel
theorem dX12_refusesStart_21 : decode cX12_refusesStart 21 = .ok (.goto 4, 3) := by decide +kernel
theorem dX12_refusesStart_24 : decode cX12_refusesStart 24 = .ok (.iconst 0, 1) := by decide +kernel
theorem dX12_refusesStart_25 : decode cX12_refusesStart 25 = .ok (.ireturn, 1) := by decide +kernel
theorem dX12_starts_0 : decode cX12_starts 0 = .ok (.aload_n 0, 1) := by decide +kernel
theorem dX12_starts_1 : decode cX12_starts 1 = .ok (.iconst 0, 1) := by decide +kernel
theorem dX12_starts_2 : decode cX12_starts 2 = .ok (.putfield 88, 3) := by decide +kernel
theorem dX12_starts_5 : decode cX12_starts 5 = .ok (.aload_n 0, 1) := by decide +kernel
theorem dX12_starts_6 : decode cX12_starts 6 = .ok (.aload_n 0, 1) := by decide +kernel
theorem dX12_starts_7 : decode cX12_starts 7 = .ok (.getfield 9, 3) := by decide +kernel
theorem dX12_starts_10 : decode cX12_starts 10 = .ok (.iload_n 1, 1) := by decide +kernel
theorem dX12_starts_11 : decode cX12_starts 11 = .ok (.invokevirtual 249, 3) := by decide +kernel
theorem dX12_starts_14 : decode cX12_starts 14 = .ok (.istore_n 2, 1) := by decide +kernel
theorem dX12_starts_15 : decode cX12_starts 15 = .ok (.iload_n 2, 1) := by decide +kernel
theorem dX12_starts_16 : decode cX12_starts 16 = .ok (.ifCond .ge 5, 3) := by decide +kernel
theorem dX12_starts_19 : decode cX12_starts 19 = .ok (.iload_n 2, 1) := by decide +kernel
theorem dX12_starts_20 : decode cX12_starts 20 = .ok (.ireturn, 1) := by decide +kernel
theorem dX12_starts_21 : decode cX12_starts 21 = .ok (.aload_n 0, 1) := by decide +kernel
theorem dX12_starts_22 : decode cX12_starts 22 = .ok (.aload_n 0, 1) := by decide +kernel
theorem dX12_starts_23 : decode cX12_starts 23 = .ok (.getfield 9, 3) := by decide +kernel
theorem dX12_starts_26 : decode cX12_starts 26 = .ok (.invokevirtual 201, 3) := by decide +kernel
theorem dX12_starts_29 : decode cX12_starts 29 = .ok (.aload_n 0, 1) := by decide +kernel
theorem dX12_starts_30 : decode cX12_starts 30 = .ok (.getfield 9, 3) := by decide +kernel
theorem dX12_starts_33 : decode cX12_starts 33 = .ok (.bipush 7, 2) := by decide +kernel
theorem dX12_starts_35 : decode cX12_starts 35 = .ok (.iload_n 1, 1) := by decide +kernel
theorem dX12_starts_36 : decode cX12_starts 36 = .ok (.iadd, 1) := by decide +kernel
theorem dX12_starts_37 : decode cX12_starts 37 = .ok (.iconst 1, 1) := by decide +kernel
theorem dX12_starts_38 : decode cX12_starts 38 = .ok (.iastore, 1) := by decide +kernel
theorem dX12_starts_39 : decode cX12_starts 39 = .ok (.aload_n 0, 1) := by decide +kernel
theorem dX12_starts_40 : decode cX12_starts 40 = .ok (.aload_n 0, 1) := by decide +kernel
theorem dX12_starts_41 : decode cX12_starts 41 = .ok (.getfield 9, 3) := by decide +kernel
theorem dX12_starts_44 : decode cX12_starts 44 = .ok (.invokevirtual 240, 3) := by decide +kernel
theorem dX12_starts_47 : decode cX12_starts 47 = .ok (.invokestatic 244, 3) := by decide +kernel
theorem dX12_starts_50 : decode cX12_starts 50 = .ok (.ireturn, 1) := by decide +kernel
theorem dX12_refusesWay_0 : decode cX12_refusesWay 0 = .ok (.aload_n 0, 1) := by decide +kernel
theorem dX12_refusesWay_1 : decode cX12_refusesWay 1 = .ok (.iload_n 2, 1) := by decide +kernel
theorem dX12_refusesWay_2 : decode cX12_refusesWay 2 = .ok (.invokevirtual 205, 3) := by decide +kernel
theorem dX12_refusesWay_5 : decode cX12_refusesWay 5 = .ok (.ifCond .ne 5, 3) := by decide +kernel
theorem dX12_refusesWay_8 : decode cX12_refusesWay 8 = .ok (.iconst (-1), 1) := by decide +kernel
theorem dX12_refusesWay_9 : decode cX12_refusesWay 9 = .ok (.ireturn, 1) := by decide +kernel
theorem dX12_refusesWay_10 : decode cX12_refusesWay 10 = .ok (.aload_n 1, 1) := by decide +kernel
theorem dX12_refusesWay_11 : decode cX12_refusesWay 11 = .ok (.bipush 7, 2) := by decide +kernel
theorem dX12_refusesWay_13 : decode cX12_refusesWay 13 = .ok (.iload_n 2, 1) := by decide +kernel
theorem dX12_refusesWay_14 : decode cX12_refusesWay 14 = .ok (.iadd, 1) := by decide +kernel
theorem dX12_refusesWay_15 : decode cX12_refusesWay 15 = .ok (.iaload, 1) := by decide +kernel
theorem dX12_refusesWay_16 : decode cX12_refusesWay 16 = .ok (.ifCond .ne 8, 3) := by decide +kernel
theorem dX12_refusesWay_19 : decode cX12_refusesWay 19 = .ok (.bipush (-2), 2) := by decide +kernel
theorem dX12_refusesWay_21 : decode cX12_refusesWay 21 = .ok (.goto 4, 3) := by decide +kernel
theorem dX12_refusesWay_24 : decode cX12_refusesWay 24 = .ok (.iconst 0, 1) := by decide +kernel
theorem dX12_refusesWay_25 : decode cX12_refusesWay 25 = .ok (.ireturn, 1) := by decide +kernel
theorem dX12_backs_0 : decode cX12_backs 0 = .ok (.aload_n 0, 1) := by decide +kernel
theorem dX12_backs_1 : decode cX12_backs 1 = .ok (.iconst 0, 1) := by decide +kernel
theorem dX12_backs_2 : decode cX12_backs 2 = .ok (.putfield 88, 3) := by decide +kernel
theorem dX12_backs_5 : decode cX12_backs 5 = .ok (.aload_n 0, 1) := by decide +kernel
theorem dX12_backs_6 : decode cX12_backs 6 = .ok (.aload_n 0, 1) := by decide +kernel
theorem dX12_backs_7 : decode cX12_backs 7 = .ok (.getfield 9, 3) := by decide +kernel
theorem dX12_backs_10 : decode cX12_backs 10 = .ok (.iload_n 1, 1) := by decide +kernel
theorem dX12_backs_11 : decode cX12_backs 11 = .ok (.invokevirtual 252, 3) := by decide +kernel
theorem dX12_backs_14 : decode cX12_backs 14 = .ok (.istore_n 2, 1) := by decide +kernel
theorem dX12_backs_15 : decode cX12_backs 15 = .ok (.iload_n 2, 1) := by decide +kernel
theorem dX12_backs_16 : decode cX12_backs 16 = .ok (.ifCond .ge 5, 3) := by decide +kernel
theorem dX12_backs_19 : decode cX12_backs 19 = .ok (.iload_n 2, 1) := by decide +kernel
theorem dX12_backs_20 : decode cX12_backs 20 = .ok (.ireturn, 1) := by decide +kernel
theorem dX12_backs_21 : decode cX12_backs 21 = .ok (.aload_n 0, 1) := by decide +kernel
theorem dX12_backs_22 : decode cX12_backs 22 = .ok (.aload_n 0, 1) := by decide +kernel
theorem dX12_backs_23 : decode cX12_backs 23 = .ok (.getfield 9, 3) := by decide +kernel
theorem dX12_backs_26 : decode cX12_backs 26 = .ok (.invokevirtual 201, 3) := by decide +kernel
theorem dX12_backs_29 : decode cX12_backs 29 = .ok (.aload_n 0, 1) := by decide +kernel
theorem dX12_backs_30 : decode cX12_backs 30 = .ok (.getfield 9, 3) := by decide +kernel
theorem dX12_backs_33 : decode cX12_backs 33 = .ok (.bipush 7, 2) := by decide +kernel
theorem dX12_backs_35 : decode cX12_backs 35 = .ok (.iload_n 1, 1) := by decide +kernel
theorem dX12_backs_36 : decode cX12_backs 36 = .ok (.iadd, 1) := by decide +kernel
theorem dX12_backs_37 : decode cX12_backs 37 = .ok (.iconst 3, 1) := by decide +kernel
theorem dX12_backs_38 : decode cX12_backs 38 = .ok (.aload_n 0, 1) := by decide +kernel
theorem dX12_backs_39 : decode cX12_backs 39 = .ok (.getfield 9, 3) := by decide +kernel
theorem dX12_backs_42 : decode cX12_backs 42 = .ok (.bipush 7, 2) := by decide +kernel
theorem dX12_backs_44 : decode cX12_backs 44 = .ok (.iload_n 1, 1) := by decide +kernel
theorem dX12_backs_45 : decode cX12_backs 45 = .ok (.iadd, 1) := by decide +kernel
theorem dX12_backs_46 : decode cX12_backs 46 = .ok (.iaload, 1) := by decide +kernel
theorem dX12_backs_47 : decode cX12_backs 47 = .ok (.isub, 1) := by decide +kernel
theorem dX12_backs_48 : decode cX12_backs 48 = .ok (.iastore, 1) := by decide +kernel
theorem dX12_backs_49 : decode cX12_backs 49 = .ok (.aload_n 0, 1) := by decide +kernel
theorem dX12_backs_50 : decode cX12_backs 50 = .ok (.getfield 9, 3) := by decide +kernel
theorem dX12_backs_53 : decode cX12_backs 53 = .ok (.bipush 7, 2) := by decide +kernel
theorem dX12_backs_55 : decode cX12_backs 55 = .ok (.iload_n 1, 1) := by decide +kernel
theorem dX12_backs_56 : decode cX12_backs 56 = .ok (.iadd, 1) := by decide +kernel
theorem dX12_backs_57 : decode cX12_backs 57 = .ok (.iaload, 1) := by decide +kernel
theorem dX12_backs_58 : decode cX12_backs 58 = .ok (.ireturn, 1) := by decide +kernel
theorem dX12_canWait_0 : decode cX12_canWait 0 = .ok (.aload_n 0, 1) := by decide +kernel
theorem dX12_canWait_1 : decode cX12_canWait 1 = .ok (.iload_n 1, 1) := by decide +kernel
theorem dX12_canWait_2 : decode cX12_canWait 2 = .ok (.invokevirtual 205, 3) := by decide +kernel
theorem dX12_canWait_5 : decode cX12_canWait 5 = .ok (.ifCond .eq 17, 3) := by decide +kernel
theorem dX12_canWait_8 : decode cX12_canWait 8 = .ok (.iload_n 2, 1) := by decide +kernel
theorem dX12_canWait_9 : decode cX12_canWait 9 = .ok (.iconst 1, 1) := by decide +kernel
theorem dX12_canWait_10 : decode cX12_canWait 10 = .ok (.bipush 9, 2) := by decide +kernel
theorem dX12_canWait_12 : decode cX12_canWait 12 = .ok (.invokestatic 98, 3) := by decide +kernel
theorem dX12_canWait_15 : decode cX12_canWait 15 = .ok (.ifCond .eq 7, 3) := by decide +kernel
theorem dX12_canWait_18 : decode cX12_canWait 18 = .ok (.iconst 1, 1) := by decide +kernel
theorem dX12_canWait_19 : decode cX12_canWait 19 = .ok (.goto 4, 3) := by decide +kernel
theorem dX12_canWait_22 : decode cX12_canWait 22 = .ok (.iconst 0, 1) := by decide +kernel
theorem dX12_canWait_23 : decode cX12_canWait 23 = .ok (.ireturn, 1) := by decide +kernel
theorem dX12_goWait_0 : decode cX12_goWait 0 = .ok (.aload_n 0, 1) := by decide +kernel
theorem dX12_goWait_1 : decode cX12_goWait 1 = .ok (.bipush 14, 2) := by decide +kernel
theorem dX12_goWait_3 : decode cX12_goWait 3 = .ok (.iload_n 1, 1) := by decide +kernel
theorem dX12_goWait_4 : decode cX12_goWait 4 = .ok (.iadd, 1) := by decide +kernel
theorem dX12_goWait_5 : decode cX12_goWait 5 = .ok (.bipush 99, 2) := by decide +kernel
theorem dX12_goWait_7 : decode cX12_goWait 7 = .ok (.aload_n 0, 1) := by decide +kernel
theorem dX12_goWait_8 : decode cX12_goWait 8 = .ok (.bipush 14, 2) := by decide +kernel
theorem dX12_goWait_10 : decode cX12_goWait 10 = .ok (.iload_n 1, 1) := by decide +kernel
theorem dX12_goWait_11 : decode cX12_goWait 11 = .ok (.iadd, 1) := by decide +kernel
theorem dX12_goWait_12 : decode cX12_goWait 12 = .ok (.iaload, 1) := by decide +kernel
theorem dX12_goWait_13 : decode cX12_goWait 13 = .ok (.iload_n 2, 1) := by decide +kernel
theorem dX12_goWait_14 : decode cX12_goWait 14 = .ok (.iadd, 1) := by decide +kernel
theorem dX12_goWait_15 : decode cX12_goWait 15 = .ok (.invokestatic 189, 3) := by decide +kernel
theorem dX12_goWait_18 : decode cX12_goWait 18 = .ok (.iastore, 1) := by decide +kernel
theorem dX12_goWait_19 : decode cX12_goWait 19 = .ok (.return_, 1) := by decide +kernel
theorem dX12_waits_0 : decode cX12_waits 0 = .ok (.aload_n 0, 1) := by decide +kernel
theorem dX12_waits_1 : decode cX12_waits 1 = .ok (.iconst 0, 1) := by decide +kernel
theorem dX12_waits_2 : decode cX12_waits 2 = .ok (.putfield 88, 3) := by decide +kernel
theorem dX12_waits_5 : decode cX12_waits 5 = .ok (.aload_n 0, 1) := by decide +kernel
theorem dX12_waits_6 : decode cX12_waits 6 = .ok (.iload_n 1, 1) := by decide +kernel
theorem dX12_waits_7 : decode cX12_waits 7 = .ok (.iload_n 2, 1) := by decide +kernel
theorem dX12_waits_8 : decode cX12_waits 8 = .ok (.invokevirtual 255, 3) := by decide +kernel
theorem dX12_waits_11 : decode cX12_waits 11 = .ok (.ifCond .ne 5, 3) := by decide +kernel
theorem dX12_waits_14 : decode cX12_waits 14 = .ok (.iconst (-1), 1) := by decide +kernel
theorem dX12_waits_15 : decode cX12_waits 15 = .ok (.ireturn, 1) := by decide +kernel
theorem dX12_waits_16 : decode cX12_waits 16 = .ok (.aload_n 0, 1) := by decide +kernel
theorem dX12_waits_17 : decode cX12_waits 17 = .ok (.aload_n 0, 1) := by decide +kernel
theorem dX12_waits_18 : decode cX12_waits 18 = .ok (.getfield 9, 3) := by decide +kernel
theorem dX12_waits_21 : decode cX12_waits 21 = .ok (.invokevirtual 201, 3) := by decide +kernel
theorem dX12_waits_24 : decode cX12_waits 24 = .ok (.aload_n 0, 1) := by decide +kernel
theorem dX12_waits_25 : decode cX12_waits 25 = .ok (.getfield 9, 3) := by decide +kernel
theorem dX12_waits_28 : decode cX12_waits 28 = .ok (.iload_n 1, 1) := by decide +kernel
theorem dX12_waits_29 : decode cX12_waits 29 = .ok (.iload_n 2, 1) := by decide +kernel
theorem dX12_waits_30 : decode cX12_waits 30 = .ok (.invokestatic 259, 3) := by decide +kernel
theorem dX12_waits_33 : decode cX12_waits 33 = .ok (.aload_n 0, 1) := by decide +kernel
theorem dX12_waits_34 : decode cX12_waits 34 = .ok (.getfield 9, 3) := by decide +kernel
theorem dX12_waits_37 : decode cX12_waits 37 = .ok (.bipush 14, 2) := by decide +kernel
theorem dX12_waits_39 : decode cX12_waits 39 = .ok (.iload_n 1, 1) := by decide +kernel
theorem dX12_waits_40 : decode cX12_waits 40 = .ok (.iadd, 1) := by decide +kernel
theorem dX12_waits_41 : decode cX12_waits 41 = .ok (.iaload, 1) := by decide +kernel
theorem dX12_waits_42 : decode cX12_waits 42 = .ok (.ireturn, 1) := by decide +kernel
theorem dX12_refusesSlip_0 : decode cX12_refusesSlip 0 = .ok (.aload_n 0, 1) := by decide +kernel
theorem dX12_refusesSlip_1 : decode cX12_refusesSlip 1 = .ok (.iload_n 2, 1) := by decide +kernel
theorem dX12_refusesSlip_2 : decode cX12_refusesSlip 2 = .ok (.invokevirtual 205, 3) := by decide +kernel
theorem dX12_refusesSlip_5 : decode cX12_refusesSlip 5 = .ok (.ifCond .eq 13, 3) := by decide +kernel
theorem dX12_refusesSlip_8 : decode cX12_refusesSlip 8 = .ok (.iload_n 3, 1) := by decide +kernel
theorem dX12_refusesSlip_9 : decode cX12_refusesSlip 9 = .ok (.iconst 1, 1) := by decide +kernel
theorem dX12_refusesSlip_10 : decode cX12_refusesSlip 10 = .ok (.bipush 9, 2) := by decide +kernel
theorem dX12_refusesSlip_12 : decode cX12_refusesSlip 12 = .ok (.invokestatic 98, 3) := by decide +kernel
theorem dX12_refusesSlip_15 : decode cX12_refusesSlip 15 = .ok (.ifCond .ne 5, 3) := by decide +kernel
theorem dX12_refusesSlip_18 : decode cX12_refusesSlip 18 = .ok (.iconst (-1), 1) := by decide +kernel
theorem dX12_refusesSlip_19 : decode cX12_refusesSlip 19 = .ok (.ireturn, 1) := by decide +kernel
theorem dX12_refusesSlip_20 : decode cX12_refusesSlip 20 = .ok (.aload_n 1, 1) := by decide +kernel
theorem dX12_refusesSlip_21 : decode cX12_refusesSlip 21 = .ok (.bipush 7, 2) := by decide +kernel
theorem dX12_refusesSlip_23 : decode cX12_refusesSlip 23 = .ok (.iload_n 2, 1) := by decide +kernel
theorem dX12_refusesSlip_24 : decode cX12_refusesSlip 24 = .ok (.iadd, 1) := by decide +kernel
theorem dX12_refusesSlip_25 : decode cX12_refusesSlip 25 = .ok (.iaload, 1) := by decide +kernel
theorem dX12_refusesSlip_26 : decode cX12_refusesSlip 26 = .ok (.ifCond .ne 8, 3) := by decide +kernel
theorem dX12_refusesSlip_29 : decode cX12_refusesSlip 29 = .ok (.bipush (-2), 2) := by decide +kernel
theorem dX12_refusesSlip_31 : decode cX12_refusesSlip 31 = .ok (.goto 4, 3) := by decide +kernel
theorem dX12_refusesSlip_34 : decode cX12_refusesSlip 34 = .ok (.iconst 0, 1) := by decide +kernel
theorem dX12_refusesSlip_35 : decode cX12_refusesSlip 35 = .ok (.ireturn, 1) := by decide +kernel
theorem dX12_goSlip_0 : decode cX12_goSlip 0 = .ok (.aload_n 0, 1) := by decide +kernel
theorem dX12_goSlip_1 : decode cX12_goSlip 1 = .ok (.iload_n 1, 1) := by decide +kernel
theorem dX12_goSlip_2 : decode cX12_goSlip 2 = .ok (.iconst 0, 1) := by decide +kernel
theorem dX12_goSlip_3 : decode cX12_goSlip 3 = .ok (.aload_n 0, 1) := by decide +kernel
theorem dX12_goSlip_4 : decode cX12_goSlip 4 = .ok (.iload_n 1, 1) := by decide +kernel
theorem dX12_goSlip_5 : decode cX12_goSlip 5 = .ok (.iaload, 1) := by decide +kernel
theorem dX12_goSlip_6 : decode cX12_goSlip 6 = .ok (.iload_n 2, 1) := by decide +kernel
theorem dX12_goSlip_7 : decode cX12_goSlip 7 = .ok (.isub, 1) := by decide +kernel
theorem dX12_goSlip_8 : decode cX12_goSlip 8 = .ok (.invokestatic 195, 3) := by decide +kernel
theorem dX12_goSlip_11 : decode cX12_goSlip 11 = .ok (.iastore, 1) := by decide +kernel
theorem dX12_goSlip_12 : decode cX12_goSlip 12 = .ok (.aload_n 0, 1) := by decide +kernel
theorem dX12_goSlip_13 : decode cX12_goSlip 13 = .ok (.bipush 7, 2) := by decide +kernel
theorem dX12_goSlip_15 : decode cX12_goSlip 15 = .ok (.iload_n 1, 1) := by decide +kernel
theorem dX12_goSlip_16 : decode cX12_goSlip 16 = .ok (.iadd, 1) := by decide +kernel
theorem dX12_goSlip_17 : decode cX12_goSlip 17 = .ok (.iconst 2, 1) := by decide +kernel
theorem dX12_goSlip_18 : decode cX12_goSlip 18 = .ok (.iastore, 1) := by decide +kernel
theorem dX12_goSlip_19 : decode cX12_goSlip 19 = .ok (.return_, 1) := by decide +kernel
theorem dX12_slips_0 : decode cX12_slips 0 = .ok (.aload_n 0, 1) := by decide +kernel
theorem dX12_slips_1 : decode cX12_slips 1 = .ok (.iconst 0, 1) := by decide +kernel
theorem dX12_slips_2 : decode cX12_slips 2 = .ok (.putfield 88, 3) := by decide +kernel
theorem dX12_slips_5 : decode cX12_slips 5 = .ok (.aload_n 0, 1) := by decide +kernel
theorem dX12_slips_6 : decode cX12_slips 6 = .ok (.aload_n 0, 1) := by decide +kernel
theorem dX12_slips_7 : decode cX12_slips 7 = .ok (.getfield 9, 3) := by decide +kernel
theorem dX12_slips_10 : decode cX12_slips 10 = .ok (.iload_n 1, 1) := by decide +kernel
theorem dX12_slips_11 : decode cX12_slips 11 = .ok (.iload_n 2, 1) := by decide +kernel
theorem dX12_slips_12 : decode cX12_slips 12 = .ok (.invokevirtual 263, 3) := by decide +kernel
theorem dX12_slips_15 : decode cX12_slips 15 = .ok (.istore_n 3, 1) := by decide +kernel
theorem dX12_slips_16 : decode cX12_slips 16 = .ok (.iload_n 3, 1) := by decide +kernel
theorem dX12_slips_17 : decode cX12_slips 17 = .ok (.ifCond .ge 5, 3) := by decide +kernel
theorem dX12_slips_20 : decode cX12_slips 20 = .ok (.iload_n 3, 1) := by decide +kernel
theorem dX12_slips_21 : decode cX12_slips 21 = .ok (.ireturn, 1) := by decide +kernel
theorem dX12_slips_22 : decode cX12_slips 22 = .ok (.aload_n 0, 1) := by decide +kernel
theorem dX12_slips_23 : decode cX12_slips 23 = .ok (.aload_n 0, 1) := by decide +kernel
theorem dX12_slips_24 : decode cX12_slips 24 = .ok (.getfield 9, 3) := by decide +kernel
theorem dX12_slips_27 : decode cX12_slips 27 = .ok (.invokevirtual 201, 3) := by decide +kernel
theorem dX12_slips_30 : decode cX12_slips 30 = .ok (.aload_n 0, 1) := by decide +kernel
theorem dX12_slips_31 : decode cX12_slips 31 = .ok (.getfield 9, 3) := by decide +kernel
theorem dX12_slips_34 : decode cX12_slips 34 = .ok (.iload_n 1, 1) := by decide +kernel
theorem dX12_slips_35 : decode cX12_slips 35 = .ok (.iload_n 2, 1) := by decide +kernel
theorem dX12_slips_36 : decode cX12_slips 36 = .ok (.invokestatic 267, 3) := by decide +kernel
theorem dX12_slips_39 : decode cX12_slips 39 = .ok (.aload_n 0, 1) := by decide +kernel
theorem dX12_slips_40 : decode cX12_slips 40 = .ok (.getfield 9, 3) := by decide +kernel
theorem dX12_slips_43 : decode cX12_slips 43 = .ok (.iload_n 1, 1) := by decide +kernel
theorem dX12_slips_44 : decode cX12_slips 44 = .ok (.iaload, 1) := by decide +kernel
theorem dX12_slips_45 : decode cX12_slips 45 = .ok (.ireturn, 1) := by decide +kernel
theorem dX12_day_0 : decode cX12_day 0 = .ok (.aload_n 0, 1) := by decide +kernel
theorem dX12_day_1 : decode cX12_day 1 = .ok (.iconst 0, 1) := by decide +kernel
theorem dX12_day_2 : decode cX12_day 2 = .ok (.putfield 88, 3) := by decide +kernel
theorem dX12_day_5 : decode cX12_day 5 = .ok (.aload_n 0, 1) := by decide +kernel
theorem dX12_day_6 : decode cX12_day 6 = .ok (.bipush 60, 2) := by decide +kernel
theorem dX12_day_8 : decode cX12_day 8 = .ok (.invokevirtual 144, 3) := by decide +kernel
theorem dX12_day_11 : decode cX12_day 11 = .ok (.iconst 0, 1) := by decide +kernel
theorem dX12_day_12 : decode cX12_day 12 = .ok (.istore_n 1, 1) := by decide +kernel
theorem dX12_day_13 : decode cX12_day 13 = .ok (.aload_n 0, 1) := by decide +kernel
theorem dX12_day_14 : decode cX12_day 14 = .ok (.invokevirtual 124, 3) := by decide +kernel
theorem dX12_day_17 : decode cX12_day 17 = .ok (.ifCond .eq 27, 3) := by decide +kernel
theorem dX12_day_20 : decode cX12_day 20 = .ok (.aload_n 0, 1) := by decide +kernel
theorem dX12_day_21 : decode cX12_day 21 = .ok (.getfield 114, 3) := by decide +kernel
theorem dX12_day_24 : decode cX12_day 24 = .ok (.aload_n 0, 1) := by decide +kernel
theorem dX12_day_25 : decode cX12_day 25 = .ok (.getfield 108, 3) := by decide +kernel
theorem dX12_day_28 : decode cX12_day 28 = .ok (.if_icmp .ge 16, 3) := by decide +kernel
theorem dX12_day_31 : decode cX12_day 31 = .ok (.aload_n 0, 1) := by decide +kernel
theorem dX12_day_32 : decode cX12_day 32 = .ok (.iconst 3, 1) := by decide +kernel
theorem dX12_day_33 : decode cX12_day 33 = .ok (.iload_n 1, 1) := by decide +kernel
theorem dX12_day_34 : decode cX12_day 34 = .ok (.imul, 1) := by decide +kernel
theorem dX12_day_35 : decode cX12_day 35 = .ok (.invokevirtual 270, 3) := by decide +kernel
theorem dX12_day_38 : decode cX12_day 38 = .ok (.iinc 1 1, 3) := by decide +kernel
theorem dX12_day_41 : decode cX12_day 41 = .ok (.goto (-28), 3) := by decide +kernel
theorem dX12_day_44 : decode cX12_day 44 = .ok (.aload_n 0, 1) := by decide +kernel
theorem dX12_day_45 : decode cX12_day 45 = .ok (.invokevirtual 147, 3) := by decide +kernel
theorem dX12_day_48 : decode cX12_day 48 = .ok (.ifCond .ne 10, 3) := by decide +kernel
theorem dX12_day_51 : decode cX12_day 51 = .ok (.iconst (-1), 1) := by decide +kernel
theorem dX12_day_52 : decode cX12_day 52 = .ok (.aload_n 0, 1) := by decide +kernel
theorem dX12_day_53 : decode cX12_day 53 = .ok (.getfield 117, 3) := by decide +kernel
theorem dX12_day_56 : decode cX12_day 56 = .ok (.isub, 1) := by decide +kernel
theorem dX12_day_57 : decode cX12_day 57 = .ok (.ireturn, 1) := by decide +kernel
theorem dX12_day_58 : decode cX12_day 58 = .ok (.aload_n 0, 1) := by decide +kernel
theorem dX12_day_59 : decode cX12_day 59 = .ok (.getfield 9, 3) := by decide +kernel
theorem dX12_day_62 : decode cX12_day 62 = .ok (.aload_n 0, 1) := by decide +kernel
theorem dX12_day_63 : decode cX12_day 63 = .ok (.getfield 39, 3) := by decide +kernel
theorem dX12_day_66 : decode cX12_day 66 = .ok (.iconst 0, 1) := by decide +kernel
theorem dX12_day_67 : decode cX12_day 67 = .ok (.invokestatic 219, 3) := by decide +kernel
theorem dX12_day_70 : decode cX12_day 70 = .ok (.iconst 0, 1) := by decide +kernel
theorem dX12_day_71 : decode cX12_day 71 = .ok (.istore_n 2, 1) := by decide +kernel
theorem dX12_day_72 : decode cX12_day 72 = .ok (.iload_n 2, 1) := by decide +kernel
theorem dX12_day_73 : decode cX12_day 73 = .ok (.iload_n 1, 1) := by decide +kernel
theorem dX12_day_74 : decode cX12_day 74 = .ok (.if_icmp .ge 44, 3) := by decide +kernel
theorem dX12_day_77 : decode cX12_day 77 = .ok (.aload_n 0, 1) := by decide +kernel
theorem dX12_day_78 : decode cX12_day 78 = .ok (.aload_n 0, 1) := by decide +kernel
theorem dX12_day_79 : decode cX12_day 79 = .ok (.getfield 51, 3) := by decide +kernel
theorem dX12_day_82 : decode cX12_day 82 = .ok (.iconst 3, 1) := by decide +kernel
theorem dX12_day_83 : decode cX12_day 83 = .ok (.iload_n 2, 1) := by decide +kernel
theorem dX12_day_84 : decode cX12_day 84 = .ok (.imul, 1) := by decide +kernel
theorem dX12_day_85 : decode cX12_day 85 = .ok (.iaload, 1) := by decide +kernel
theorem dX12_day_86 : decode cX12_day 86 = .ok (.aload_n 0, 1) := by decide +kernel
theorem dX12_day_87 : decode cX12_day 87 = .ok (.getfield 51, 3) := by decide +kernel
theorem dX12_day_90 : decode cX12_day 90 = .ok (.iconst 3, 1) := by decide +kernel
theorem dX12_day_91 : decode cX12_day 91 = .ok (.iload_n 2, 1) := by decide +kernel
theorem dX12_day_92 : decode cX12_day 92 = .ok (.imul, 1) := by decide +kernel
theorem dX12_day_93 : decode cX12_day 93 = .ok (.iconst 1, 1) := by decide +kernel
theorem dX12_day_94 : decode cX12_day 94 = .ok (.iadd, 1) := by decide +kernel
theorem dX12_day_95 : decode cX12_day 95 = .ok (.iaload, 1) := by decide +kernel
theorem dX12_day_96 : decode cX12_day 96 = .ok (.aload_n 0, 1) := by decide +kernel
theorem dX12_day_97 : decode cX12_day 97 = .ok (.getfield 51, 3) := by decide +kernel
theorem dX12_day_100 : decode cX12_day 100 = .ok (.iconst 3, 1) := by decide +kernel
theorem dX12_day_101 : decode cX12_day 101 = .ok (.iload_n 2, 1) := by decide +kernel
theorem dX12_day_102 : decode cX12_day 102 = .ok (.imul, 1) := by decide +kernel
theorem dX12_day_103 : decode cX12_day 103 = .ok (.iconst 2, 1) := by decide +kernel
theorem dX12_day_104 : decode cX12_day 104 = .ok (.iadd, 1) := by decide +kernel
theorem dX12_day_105 : decode cX12_day 105 = .ok (.iaload, 1) := by decide +kernel
theorem dX12_day_106 : decode cX12_day 106 = .ok (.invokevirtual 273, 3) := by decide +kernel
theorem dX12_day_109 : decode cX12_day 109 = .ok (.ifCond .eq 9, 3) := by decide +kernel
theorem dX12_day_112 : decode cX12_day 112 = .ok (.iinc 2 1, 3) := by decide +kernel
theorem dX12_day_115 : decode cX12_day 115 = .ok (.goto (-43), 3) := by decide +kernel
theorem dX12_day_118 : decode cX12_day 118 = .ok (.iload_n 2, 1) := by decide +kernel
theorem dX12_day_119 : decode cX12_day 119 = .ok (.ifCond .le 11, 3) := by decide +kernel
theorem dX12_day_122 : decode cX12_day 122 = .ok (.aload_n 0, 1) := by decide +kernel
theorem dX12_day_123 : decode cX12_day 123 = .ok (.aload_n 0, 1) := by decide +kernel
theorem dX12_day_124 : decode cX12_day 124 = .ok (.getfield 39, 3) := by decide +kernel
theorem dX12_day_127 : decode cX12_day 127 = .ok (.invokevirtual 201, 3) := by decide +kernel
theorem dX12_day_130 : decode cX12_day 130 = .ok (.aload_n 0, 1) := by decide +kernel
theorem dX12_day_131 : decode cX12_day 131 = .ok (.iconst 0, 1) := by decide +kernel
theorem dX12_day_132 : decode cX12_day 132 = .ok (.putfield 92, 3) := by decide +kernel
theorem dX12_day_135 : decode cX12_day 135 = .ok (.aload_n 0, 1) := by decide +kernel
theorem dX12_day_136 : decode cX12_day 136 = .ok (.iload_n 2, 1) := by decide +kernel
theorem dX12_day_137 : decode cX12_day 137 = .ok (.iload_n 1, 1) := by decide +kernel
theorem dX12_day_138 : decode cX12_day 138 = .ok (.if_icmp .ge 7, 3) := by decide +kernel
theorem dX12_day_141 : decode cX12_day 141 = .ok (.lconst 1, 1) := by decide +kernel
theorem dX12_day_142 : decode cX12_day 142 = .ok (.goto 4, 3) := by decide +kernel
theorem dX12_day_145 : decode cX12_day 145 = .ok (.lconst 0, 1) := by decide +kernel
theorem dX12_day_146 : decode cX12_day 146 = .ok (.invokevirtual 236, 3) := by decide +kernel
theorem dX12_day_149 : decode cX12_day 149 = .ok (.aload_n 0, 1) := by decide +kernel
theorem dX12_day_150 : decode cX12_day 150 = .ok (.aload_n 0, 1) := by decide +kernel
theorem dX12_day_151 : decode cX12_day 151 = .ok (.getfield 9, 3) := by decide +kernel
theorem dX12_day_154 : decode cX12_day 154 = .ok (.bipush 30, 2) := by decide +kernel
theorem dX12_day_156 : decode cX12_day 156 = .ok (.iaload, 1) := by decide +kernel
theorem dX12_day_157 : decode cX12_day 157 = .ok (.i2l, 1) := by decide +kernel
theorem dX12_day_158 : decode cX12_day 158 = .ok (.invokevirtual 236, 3) := by decide +kernel
theorem dX12_day_161 : decode cX12_day 161 = .ok (.iload_n 2, 1) := by decide +kernel
theorem dX12_day_162 : decode cX12_day 162 = .ok (.ireturn, 1) := by decide +kernel
theorem dX12_readAct_0 : decode cX12_readAct 0 = .ok (.aload_n 0, 1) := by decide +kernel
theorem dX12_readAct_1 : decode cX12_readAct 1 = .ok (.invokevirtual 128, 3) := by decide +kernel
theorem dX12_readAct_4 : decode cX12_readAct 4 = .ok (.istore_n 2, 1) := by decide +kernel
theorem dX12_readAct_5 : decode cX12_readAct 5 = .ok (.iload_n 2, 1) := by decide +kernel
theorem dX12_readAct_6 : decode cX12_readAct 6 = .ok (.bipush 110, 2) := by decide +kernel
theorem dX12_readAct_8 : decode cX12_readAct 8 = .ok (.if_icmp .eq 42, 3) := by decide +kernel
theorem dX12_readAct_11 : decode cX12_readAct 11 = .ok (.iload_n 2, 1) := by decide +kernel
theorem dX12_readAct_12 : decode cX12_readAct 12 = .ok (.bipush 115, 2) := by decide +kernel
theorem dX12_readAct_14 : decode cX12_readAct 14 = .ok (.if_icmp .eq 36, 3) := by decide +kernel
theorem dX12_readAct_17 : decode cX12_readAct 17 = .ok (.iload_n 2, 1) := by decide +kernel
theorem dX12_readAct_18 : decode cX12_readAct 18 = .ok (.bipush 98, 2) := by decide +kernel
theorem dX12_readAct_20 : decode cX12_readAct 20 = .ok (.if_icmp .eq 30, 3) := by decide +kernel
theorem dX12_readAct_23 : decode cX12_readAct 23 = .ok (.iload_n 2, 1) := by decide +kernel
theorem dX12_readAct_24 : decode cX12_readAct 24 = .ok (.bipush 119, 2) := by decide +kernel
theorem dX12_readAct_26 : decode cX12_readAct 26 = .ok (.if_icmp .eq 24, 3) := by decide +kernel
theorem dX12_readAct_29 : decode cX12_readAct 29 = .ok (.iload_n 2, 1) := by decide +kernel
theorem dX12_readAct_30 : decode cX12_readAct 30 = .ok (.bipush 102, 2) := by decide +kernel
theorem dX12_readAct_32 : decode cX12_readAct 32 = .ok (.if_icmp .eq 18, 3) := by decide +kernel
theorem dX12_readAct_35 : decode cX12_readAct 35 = .ok (.iload_n 2, 1) := by decide +kernel
theorem dX12_readAct_36 : decode cX12_readAct 36 = .ok (.bipush 116, 2) := by decide +kernel
theorem dX12_readAct_38 : decode cX12_readAct 38 = .ok (.if_icmp .eq 12, 3) := by decide +kernel
theorem dX12_readAct_41 : decode cX12_readAct 41 = .ok (.aload_n 0, 1) := by decide +kernel
theorem dX12_readAct_42 : decode cX12_readAct 42 = .ok (.aload_n 0, 1) := by decide +kernel
theorem dX12_readAct_43 : decode cX12_readAct 43 = .ok (.getfield 114, 3) := by decide +kernel
theorem dX12_readAct_46 : decode cX12_readAct 46 = .ok (.invokevirtual 136, 3) := by decide +kernel
theorem dX12_readAct_49 : decode cX12_readAct 49 = .ok (.return_, 1) := by decide +kernel
theorem dX12_readAct_50 : decode cX12_readAct 50 = .ok (.aload_n 0, 1) := by decide +kernel
theorem dX12_readAct_51 : decode cX12_readAct 51 = .ok (.dup, 1) := by decide +kernel
theorem dX12_readAct_52 : decode cX12_readAct 52 = .ok (.getfield 114, 3) := by decide +kernel
theorem dX12_readAct_55 : decode cX12_readAct 55 = .ok (.iconst 1, 1) := by decide +kernel
theorem dX12_readAct_56 : decode cX12_readAct 56 = .ok (.iadd, 1) := by decide +kernel
theorem dX12_readAct_57 : decode cX12_readAct 57 = .ok (.putfield 114, 3) := by decide +kernel
theorem dX12_readAct_60 : decode cX12_readAct 60 = .ok (.aload_n 0, 1) := by decide +kernel
theorem dX12_readAct_61 : decode cX12_readAct 61 = .ok (.getfield 51, 3) := by decide +kernel
theorem dX12_readAct_64 : decode cX12_readAct 64 = .ok (.iload_n 1, 1) := by decide +kernel
theorem dX12_readAct_65 : decode cX12_readAct 65 = .ok (.iload_n 2, 1) := by decide +kernel
theorem dX12_readAct_66 : decode cX12_readAct 66 = .ok (.iastore, 1) := by decide +kernel
theorem dX12_readAct_67 : decode cX12_readAct 67 = .ok (.aload_n 0, 1) := by decide +kernel
theorem dX12_readAct_68 : decode cX12_readAct 68 = .ok (.getfield 51, 3) := by decide +kernel
theorem dX12_readAct_71 : decode cX12_readAct 71 = .ok (.iload_n 1, 1) := by decide +kernel
theorem dX12_readAct_72 : decode cX12_readAct 72 = .ok (.iconst 1, 1) := by decide +kernel
theorem dX12_readAct_73 : decode cX12_readAct 73 = .ok (.iadd, 1) := by decide +kernel
theorem dX12_readAct_74 : decode cX12_readAct 74 = .ok (.aload_n 0, 1) := by decide +kernel
theorem dX12_readAct_75 : decode cX12_readAct 75 = .ok (.bipush 48, 2) := by decide +kernel
theorem dX12_readAct_77 : decode cX12_readAct 77 = .ok (.bipush 10, 2) := by decide +kernel
theorem dX12_readAct_79 : decode cX12_readAct 79 = .ok (.invokevirtual 140, 3) := by decide +kernel
theorem dX12_readAct_82 : decode cX12_readAct 82 = .ok (.iastore, 1) := by decide +kernel
theorem dX12_readAct_83 : decode cX12_readAct 83 = .ok (.iload_n 2, 1) := by decide +kernel
theorem dX12_readAct_84 : decode cX12_readAct 84 = .ok (.bipush 119, 2) := by decide +kernel
theorem dX12_readAct_86 : decode cX12_readAct 86 = .ok (.if_icmp .eq 9, 3) := by decide +kernel
theorem dX12_readAct_89 : decode cX12_readAct 89 = .ok (.iload_n 2, 1) := by decide +kernel
theorem dX12_readAct_90 : decode cX12_readAct 90 = .ok (.bipush 102, 2) := by decide +kernel
theorem dX12_readAct_92 : decode cX12_readAct 92 = .ok (.if_icmp .ne 21, 3) := by decide +kernel
theorem dX12_readAct_95 : decode cX12_readAct 95 = .ok (.aload_n 0, 1) := by decide +kernel
theorem dX12_readAct_96 : decode cX12_readAct 96 = .ok (.getfield 51, 3) := by decide +kernel
theorem dX12_readAct_99 : decode cX12_readAct 99 = .ok (.iload_n 1, 1) := by decide +kernel
theorem dX12_readAct_100 : decode cX12_readAct 100 = .ok (.iconst 2, 1) := by decide +kernel
theorem dX12_readAct_101 : decode cX12_readAct 101 = .ok (.iadd, 1) := by decide +kernel
theorem dX12_readAct_102 : decode cX12_readAct 102 = .ok (.aload_n 0, 1) := by decide +kernel
theorem dX12_readAct_103 : decode cX12_readAct 103 = .ok (.bipush 49, 2) := by decide +kernel
theorem dX12_readAct_105 : decode cX12_readAct 105 = .ok (.bipush 9, 2) := by decide +kernel
theorem dX12_readAct_107 : decode cX12_readAct 107 = .ok (.invokevirtual 140, 3) := by decide +kernel
theorem dX12_readAct_110 : decode cX12_readAct 110 = .ok (.iconst 1, 1) := by decide +kernel
theorem dX12_readAct_111 : decode cX12_readAct 111 = .ok (.iadd, 1) := by decide +kernel
theorem dX12_readAct_112 : decode cX12_readAct 112 = .ok (.iastore, 1) := by decide +kernel
theorem dX12_readAct_113 : decode cX12_readAct 113 = .ok (.return_, 1) := by decide +kernel
theorem dX12_act_0 : decode cX12_act 0 = .ok (.iload_n 1, 1) := by decide +kernel
theorem dX12_act_1 : decode cX12_act 1 = .ok (.lookupswitch 172 #[(98, 88), (102, 146), (110, 51), (115, 62), (119, 124)], 51) := by decide +kernel
theorem dX12_act_52 : decode cX12_act 52 = .ok (.aload_n 0, 1) := by decide +kernel
theorem dX12_act_53 : decode cX12_act 53 = .ok (.aload_n 0, 1) := by decide +kernel
theorem dX12_act_54 : decode cX12_act 54 = .ok (.getfield 9, 3) := by decide +kernel
theorem dX12_act_57 : decode cX12_act 57 = .ok (.iload_n 2, 1) := by decide +kernel
theorem dX12_act_58 : decode cX12_act 58 = .ok (.invokevirtual 233, 3) := by decide +kernel
theorem dX12_act_61 : decode cX12_act 61 = .ok (.iconst 1, 1) := by decide +kernel
theorem dX12_act_62 : decode cX12_act 62 = .ok (.ireturn, 1) := by decide +kernel
theorem dX12_act_63 : decode cX12_act 63 = .ok (.aload_n 0, 1) := by decide +kernel
theorem dX12_act_64 : decode cX12_act 64 = .ok (.aload_n 0, 1) := by decide +kernel
theorem dX12_act_65 : decode cX12_act 65 = .ok (.getfield 9, 3) := by decide +kernel
theorem dX12_act_68 : decode cX12_act 68 = .ok (.iload_n 2, 1) := by decide +kernel
theorem dX12_act_69 : decode cX12_act 69 = .ok (.invokevirtual 249, 3) := by decide +kernel
theorem dX12_act_72 : decode cX12_act 72 = .ok (.ifCond .ge 5, 3) := by decide +kernel
theorem dX12_act_75 : decode cX12_act 75 = .ok (.iconst 0, 1) := by decide +kernel
theorem dX12_act_76 : decode cX12_act 76 = .ok (.ireturn, 1) := by decide +kernel
theorem dX12_act_77 : decode cX12_act 77 = .ok (.aload_n 0, 1) := by decide +kernel
theorem dX12_act_78 : decode cX12_act 78 = .ok (.getfield 9, 3) := by decide +kernel
theorem dX12_act_81 : decode cX12_act 81 = .ok (.bipush 7, 2) := by decide +kernel
theorem dX12_act_83 : decode cX12_act 83 = .ok (.iload_n 2, 1) := by decide +kernel
theorem dX12_act_84 : decode cX12_act 84 = .ok (.iadd, 1) := by decide +kernel
theorem dX12_act_85 : decode cX12_act 85 = .ok (.iconst 1, 1) := by decide +kernel
theorem dX12_act_86 : decode cX12_act 86 = .ok (.iastore, 1) := by decide +kernel
theorem dX12_act_87 : decode cX12_act 87 = .ok (.iconst 1, 1) := by decide +kernel
theorem dX12_act_88 : decode cX12_act 88 = .ok (.ireturn, 1) := by decide +kernel
theorem dX12_act_89 : decode cX12_act 89 = .ok (.aload_n 0, 1) := by decide +kernel
theorem dX12_act_90 : decode cX12_act 90 = .ok (.aload_n 0, 1) := by decide +kernel
theorem dX12_act_91 : decode cX12_act 91 = .ok (.getfield 9, 3) := by decide +kernel
theorem dX12_act_94 : decode cX12_act 94 = .ok (.iload_n 2, 1) := by decide +kernel
theorem dX12_act_95 : decode cX12_act 95 = .ok (.invokevirtual 252, 3) := by decide +kernel
theorem dX12_act_98 : decode cX12_act 98 = .ok (.ifCond .ge 5, 3) := by decide +kernel
theorem dX12_act_101 : decode cX12_act 101 = .ok (.iconst 0, 1) := by decide +kernel
theorem dX12_act_102 : decode cX12_act 102 = .ok (.ireturn, 1) := by decide +kernel
theorem dX12_act_103 : decode cX12_act 103 = .ok (.aload_n 0, 1) := by decide +kernel
theorem dX12_act_104 : decode cX12_act 104 = .ok (.getfield 9, 3) := by decide +kernel
theorem dX12_act_107 : decode cX12_act 107 = .ok (.bipush 7, 2) := by decide +kernel
theorem dX12_act_109 : decode cX12_act 109 = .ok (.iload_n 2, 1) := by decide +kernel
theorem dX12_act_110 : decode cX12_act 110 = .ok (.iadd, 1) := by decide +kernel
theorem dX12_act_111 : decode cX12_act 111 = .ok (.iconst 3, 1) := by decide +kernel
theorem dX12_act_112 : decode cX12_act 112 = .ok (.aload_n 0, 1) := by decide +kernel
theorem dX12_act_113 : decode cX12_act 113 = .ok (.getfield 9, 3) := by decide +kernel
theorem dX12_act_116 : decode cX12_act 116 = .ok (.bipush 7, 2) := by decide +kernel
theorem dX12_act_118 : decode cX12_act 118 = .ok (.iload_n 2, 1) := by decide +kernel
theorem dX12_act_119 : decode cX12_act 119 = .ok (.iadd, 1) := by decide +kernel
theorem dX12_act_120 : decode cX12_act 120 = .ok (.iaload, 1) := by decide +kernel
theorem dX12_act_121 : decode cX12_act 121 = .ok (.isub, 1) := by decide +kernel
theorem dX12_act_122 : decode cX12_act 122 = .ok (.iastore, 1) := by decide +kernel
theorem dX12_act_123 : decode cX12_act 123 = .ok (.iconst 1, 1) := by decide +kernel
theorem dX12_act_124 : decode cX12_act 124 = .ok (.ireturn, 1) := by decide +kernel
theorem dX12_act_125 : decode cX12_act 125 = .ok (.aload_n 0, 1) := by decide +kernel
theorem dX12_act_126 : decode cX12_act 126 = .ok (.iload_n 2, 1) := by decide +kernel
theorem dX12_act_127 : decode cX12_act 127 = .ok (.iload_n 3, 1) := by decide +kernel
theorem dX12_act_128 : decode cX12_act 128 = .ok (.invokevirtual 255, 3) := by decide +kernel
theorem dX12_act_131 : decode cX12_act 131 = .ok (.ifCond .ne 5, 3) := by decide +kernel
theorem dX12_act_134 : decode cX12_act 134 = .ok (.iconst 0, 1) := by decide +kernel
theorem dX12_act_135 : decode cX12_act 135 = .ok (.ireturn, 1) := by decide +kernel
theorem dX12_act_136 : decode cX12_act 136 = .ok (.aload_n 0, 1) := by decide +kernel
theorem dX12_act_137 : decode cX12_act 137 = .ok (.getfield 9, 3) := by decide +kernel
theorem dX12_act_140 : decode cX12_act 140 = .ok (.iload_n 2, 1) := by decide +kernel
theorem dX12_act_141 : decode cX12_act 141 = .ok (.iload_n 3, 1) := by decide +kernel
theorem dX12_act_142 : decode cX12_act 142 = .ok (.invokestatic 259, 3) := by decide +kernel
theorem dX12_act_145 : decode cX12_act 145 = .ok (.iconst 1, 1) := by decide +kernel
theorem dX12_act_146 : decode cX12_act 146 = .ok (.ireturn, 1) := by decide +kernel
theorem dX12_act_147 : decode cX12_act 147 = .ok (.aload_n 0, 1) := by decide +kernel
theorem dX12_act_148 : decode cX12_act 148 = .ok (.aload_n 0, 1) := by decide +kernel
theorem dX12_act_149 : decode cX12_act 149 = .ok (.getfield 9, 3) := by decide +kernel
theorem dX12_act_152 : decode cX12_act 152 = .ok (.iload_n 2, 1) := by decide +kernel
theorem dX12_act_153 : decode cX12_act 153 = .ok (.iload_n 3, 1) := by decide +kernel
theorem dX12_act_154 : decode cX12_act 154 = .ok (.invokevirtual 263, 3) := by decide +kernel
theorem dX12_act_157 : decode cX12_act 157 = .ok (.ifCond .ge 5, 3) := by decide +kernel
theorem dX12_act_160 : decode cX12_act 160 = .ok (.iconst 0, 1) := by decide +kernel
theorem dX12_act_161 : decode cX12_act 161 = .ok (.ireturn, 1) := by decide +kernel
theorem dX12_act_162 : decode cX12_act 162 = .ok (.aload_n 0, 1) := by decide +kernel
theorem dX12_act_163 : decode cX12_act 163 = .ok (.getfield 9, 3) := by decide +kernel
theorem dX12_act_166 : decode cX12_act 166 = .ok (.iload_n 2, 1) := by decide +kernel
theorem dX12_act_167 : decode cX12_act 167 = .ok (.iload_n 3, 1) := by decide +kernel
theorem dX12_act_168 : decode cX12_act 168 = .ok (.invokestatic 267, 3) := by decide +kernel
theorem dX12_act_171 : decode cX12_act 171 = .ok (.iconst 1, 1) := by decide +kernel
theorem dX12_act_172 : decode cX12_act 172 = .ok (.ireturn, 1) := by decide +kernel
theorem dX12_act_173 : decode cX12_act 173 = .ok (.aload_n 0, 1) := by decide +kernel
theorem dX12_act_174 : decode cX12_act 174 = .ok (.iload_n 2, 1) := by decide +kernel
theorem dX12_act_175 : decode cX12_act 175 = .ok (.invokevirtual 198, 3) := by decide +kernel
theorem dX12_act_178 : decode cX12_act 178 = .ok (.ifCond .ge 5, 3) := by decide +kernel
theorem dX12_act_181 : decode cX12_act 181 = .ok (.iconst 0, 1) := by decide +kernel
theorem dX12_act_182 : decode cX12_act 182 = .ok (.ireturn, 1) := by decide +kernel
theorem dX12_act_183 : decode cX12_act 183 = .ok (.aload_n 0, 1) := by decide +kernel
theorem dX12_act_184 : decode cX12_act 184 = .ok (.getfield 9, 3) := by decide +kernel
theorem dX12_act_187 : decode cX12_act 187 = .ok (.bipush 28, 2) := by decide +kernel
theorem dX12_act_189 : decode cX12_act 189 = .ok (.iload_n 2, 1) := by decide +kernel
theorem dX12_act_190 : decode cX12_act 190 = .ok (.iastore, 1) := by decide +kernel
theorem dX12_act_191 : decode cX12_act 191 = .ok (.iconst 1, 1) := by decide +kernel
theorem dX12_act_192 : decode cX12_act 192 = .ok (.ireturn, 1) := by decide +kernel
theorem dX12_undo_0 : decode cX12_undo 0 = .ok (.aload_n 0, 1) := by decide +kernel
theorem dX12_undo_1 : decode cX12_undo 1 = .ok (.iconst 0, 1) := by decide +kernel
theorem dX12_undo_2 : decode cX12_undo 2 = .ok (.putfield 88, 3) := by decide +kernel
theorem dX12_undo_5 : decode cX12_undo 5 = .ok (.aload_n 0, 1) := by decide +kernel
theorem dX12_undo_6 : decode cX12_undo 6 = .ok (.getfield 150, 3) := by decide +kernel
theorem dX12_undo_9 : decode cX12_undo 9 = .ok (.ifCond .ne 5, 3) := by decide +kernel
theorem dX12_undo_12 : decode cX12_undo 12 = .ok (.iconst (-1), 1) := by decide +kernel
theorem dX12_undo_13 : decode cX12_undo 13 = .ok (.ireturn, 1) := by decide +kernel
theorem dX12_undo_14 : decode cX12_undo 14 = .ok (.aload_n 0, 1) := by decide +kernel
theorem dX12_undo_15 : decode cX12_undo 15 = .ok (.dup, 1) := by decide +kernel
theorem dX12_undo_16 : decode cX12_undo 16 = .ok (.getfield 150, 3) := by decide +kernel
theorem dX12_undo_19 : decode cX12_undo 19 = .ok (.iconst 1, 1) := by decide +kernel
theorem dX12_undo_20 : decode cX12_undo 20 = .ok (.isub, 1) := by decide +kernel
theorem dX12_undo_21 : decode cX12_undo 21 = .ok (.putfield 150, 3) := by decide +kernel
theorem dX12_undo_24 : decode cX12_undo 24 = .ok (.iconst 0, 1) := by decide +kernel
theorem dX12_undo_25 : decode cX12_undo 25 = .ok (.istore_n 1, 1) := by decide +kernel
theorem dX12_undo_26 : decode cX12_undo 26 = .ok (.iload_n 1, 1) := by decide +kernel
theorem dX12_undo_27 : decode cX12_undo 27 = .ok (.bipush 32, 2) := by decide +kernel
theorem dX12_undo_29 : decode cX12_undo 29 = .ok (.if_icmp .ge 29, 3) := by decide +kernel
theorem dX12_undo_32 : decode cX12_undo 32 = .ok (.aload_n 0, 1) := by decide +kernel
theorem dX12_undo_33 : decode cX12_undo 33 = .ok (.getfield 9, 3) := by decide +kernel
theorem dX12_undo_36 : decode cX12_undo 36 = .ok (.iload_n 1, 1) := by decide +kernel
theorem dX12_undo_37 : decode cX12_undo 37 = .ok (.aload_n 0, 1) := by decide +kernel
theorem dX12_undo_38 : decode cX12_undo 38 = .ok (.getfield 36, 3) := by decide +kernel
theorem dX12_undo_41 : decode cX12_undo 41 = .ok (.bipush 32, 2) := by decide +kernel
theorem dX12_undo_43 : decode cX12_undo 43 = .ok (.aload_n 0, 1) := by decide +kernel
theorem dX12_undo_44 : decode cX12_undo 44 = .ok (.getfield 150, 3) := by decide +kernel
theorem dX12_undo_47 : decode cX12_undo 47 = .ok (.imul, 1) := by decide +kernel
theorem dX12_undo_48 : decode cX12_undo 48 = .ok (.iload_n 1, 1) := by decide +kernel
theorem dX12_undo_49 : decode cX12_undo 49 = .ok (.iadd, 1) := by decide +kernel
theorem dX12_undo_50 : decode cX12_undo 50 = .ok (.iaload, 1) := by decide +kernel
theorem dX12_undo_51 : decode cX12_undo 51 = .ok (.iastore, 1) := by decide +kernel
theorem dX12_undo_52 : decode cX12_undo 52 = .ok (.iinc 1 1, 3) := by decide +kernel
theorem dX12_undo_55 : decode cX12_undo 55 = .ok (.goto (-29), 3) := by decide +kernel
theorem dX12_undo_58 : decode cX12_undo 58 = .ok (.aload_n 0, 1) := by decide +kernel
theorem dX12_undo_59 : decode cX12_undo 59 = .ok (.getfield 150, 3) := by decide +kernel
theorem dX12_undo_62 : decode cX12_undo 62 = .ok (.ireturn, 1) := by decide +kernel
theorem dX12_goThen_0 : decode cX12_goThen 0 = .ok (.aload_n 0, 1) := by decide +kernel
theorem dX12_goThen_1 : decode cX12_goThen 1 = .ok (.getfield 9, 3) := by decide +kernel
theorem dX12_goThen_4 : decode cX12_goThen 4 = .ok (.aload_n 0, 1) := by decide +kernel
theorem dX12_goThen_5 : decode cX12_goThen 5 = .ok (.getfield 42, 3) := by decide +kernel
theorem dX12_goThen_8 : decode cX12_goThen 8 = .ok (.iconst 0, 1) := by decide +kernel
theorem dX12_goThen_9 : decode cX12_goThen 9 = .ok (.invokestatic 219, 3) := by decide +kernel
theorem dX12_goThen_12 : decode cX12_goThen 12 = .ok (.aload_n 0, 1) := by decide +kernel
theorem dX12_goThen_13 : decode cX12_goThen 13 = .ok (.aload_n 0, 1) := by decide +kernel
theorem dX12_goThen_14 : decode cX12_goThen 14 = .ok (.getfield 42, 3) := by decide +kernel
theorem dX12_goThen_17 : decode cX12_goThen 17 = .ok (.iload_n 1, 1) := by decide +kernel
theorem dX12_goThen_18 : decode cX12_goThen 18 = .ok (.invokevirtual 233, 3) := by decide +kernel
theorem dX12_goThen_21 : decode cX12_goThen 21 = .ok (.return_, 1) := by decide +kernel
theorem dX12_later_0 : decode cX12_later 0 = .ok (.aload_n 0, 1) := by decide +kernel
theorem dX12_later_1 : decode cX12_later 1 = .ok (.iconst 0, 1) := by decide +kernel
theorem dX12_later_2 : decode cX12_later 2 = .ok (.putfield 88, 3) := by decide +kernel
theorem dX12_later_5 : decode cX12_later 5 = .ok (.iload_n 1, 1) := by decide +kernel
theorem dX12_later_6 : decode cX12_later 6 = .ok (.iconst 0, 1) := by decide +kernel
theorem dX12_later_7 : decode cX12_later 7 = .ok (.bipush 99, 2) := by decide +kernel
theorem dX12_later_9 : decode cX12_later 9 = .ok (.invokestatic 98, 3) := by decide +kernel
theorem dX12_later_12 : decode cX12_later 12 = .ok (.ifCond .ne 5, 3) := by decide +kernel
theorem dX12_later_15 : decode cX12_later 15 = .ok (.iconst (-1), 1) := by decide +kernel
theorem dX12_later_16 : decode cX12_later 16 = .ok (.ireturn, 1) := by decide +kernel
theorem dX12_later_17 : decode cX12_later 17 = .ok (.aload_n 0, 1) := by decide +kernel
theorem dX12_later_18 : decode cX12_later 18 = .ok (.iload_n 1, 1) := by decide +kernel
theorem dX12_later_19 : decode cX12_later 19 = .ok (.invokevirtual 276, 3) := by decide +kernel
theorem dX12_later_22 : decode cX12_later 22 = .ok (.aload_n 0, 1) := by decide +kernel
theorem dX12_later_23 : decode cX12_later 23 = .ok (.iconst 0, 1) := by decide +kernel
theorem dX12_later_24 : decode cX12_later 24 = .ok (.putfield 92, 3) := by decide +kernel
theorem dX12_later_27 : decode cX12_later 27 = .ok (.aload_n 0, 1) := by decide +kernel
theorem dX12_later_28 : decode cX12_later 28 = .ok (.aload_n 0, 1) := by decide +kernel
theorem dX12_later_29 : decode cX12_later 29 = .ok (.getfield 223, 3) := by decide +kernel
theorem dX12_later_32 : decode cX12_later 32 = .ok (.i2l, 1) := by decide +kernel
theorem dX12_later_33 : decode cX12_later 33 = .ok (.invokevirtual 236, 3) := by decide +kernel
theorem dX12_later_36 : decode cX12_later 36 = .ok (.aload_n 0, 1) := by decide +kernel
theorem dX12_later_37 : decode cX12_later 37 = .ok (.aload_n 0, 1) := by decide +kernel
theorem dX12_later_38 : decode cX12_later 38 = .ok (.aload_n 0, 1) := by decide +kernel
theorem dX12_later_39 : decode cX12_later 39 = .ok (.getfield 42, 3) := by decide +kernel
theorem dX12_later_42 : decode cX12_later 42 = .ok (.invokevirtual 240, 3) := by decide +kernel
theorem dX12_later_45 : decode cX12_later 45 = .ok (.invokestatic 244, 3) := by decide +kernel
theorem dX12_later_48 : decode cX12_later 48 = .ok (.i2l, 1) := by decide +kernel
theorem dX12_later_49 : decode cX12_later 49 = .ok (.invokevirtual 236, 3) := by decide +kernel
theorem dX12_later_52 : decode cX12_later 52 = .ok (.aload_n 0, 1) := by decide +kernel
theorem dX12_later_53 : decode cX12_later 53 = .ok (.getfield 42, 3) := by decide +kernel
theorem dX12_later_56 : decode cX12_later 56 = .ok (.bipush 29, 2) := by decide +kernel
theorem dX12_later_58 : decode cX12_later 58 = .ok (.iaload, 1) := by decide +kernel
theorem dX12_later_59 : decode cX12_later 59 = .ok (.ireturn, 1) := by decide +kernel
theorem dX12_when_0 : decode cX12_when 0 = .ok (.aload_n 0, 1) := by decide +kernel
theorem dX12_when_1 : decode cX12_when 1 = .ok (.iconst 0, 1) := by decide +kernel
theorem dX12_when_2 : decode cX12_when 2 = .ok (.putfield 88, 3) := by decide +kernel
theorem dX12_when_5 : decode cX12_when 5 = .ok (.aload_n 0, 1) := by decide +kernel
theorem dX12_when_6 : decode cX12_when 6 = .ok (.iload_n 1, 1) := by decide +kernel
theorem dX12_when_7 : decode cX12_when 7 = .ok (.invokevirtual 205, 3) := by decide +kernel
theorem dX12_when_10 : decode cX12_when 10 = .ok (.ifCond .ne 5, 3) := by decide +kernel
theorem dX12_when_13 : decode cX12_when 13 = .ok (.iconst (-1), 1) := by decide +kernel
theorem dX12_when_14 : decode cX12_when 14 = .ok (.ireturn, 1) := by decide +kernel
theorem dX12_when_15 : decode cX12_when 15 = .ok (.aload_n 0, 1) := by decide +kernel
theorem dX12_when_16 : decode cX12_when 16 = .ok (.getfield 9, 3) := by decide +kernel
theorem dX12_when_19 : decode cX12_when 19 = .ok (.aload_n 0, 1) := by decide +kernel
theorem dX12_when_20 : decode cX12_when 20 = .ok (.getfield 42, 3) := by decide +kernel
theorem dX12_when_23 : decode cX12_when 23 = .ok (.iconst 0, 1) := by decide +kernel
theorem dX12_when_24 : decode cX12_when 24 = .ok (.invokestatic 219, 3) := by decide +kernel
theorem dX12_when_27 : decode cX12_when 27 = .ok (.bipush (-2), 2) := by decide +kernel
theorem dX12_when_29 : decode cX12_when 29 = .ok (.istore_n 2, 1) := by decide +kernel
theorem dX12_when_30 : decode cX12_when 30 = .ok (.iconst 0, 1) := by decide +kernel
theorem dX12_when_31 : decode cX12_when 31 = .ok (.istore_n 3, 1) := by decide +kernel
theorem dX12_when_32 : decode cX12_when 32 = .ok (.iconst 0, 1) := by decide +kernel
theorem dX12_when_33 : decode cX12_when 33 = .ok (.istore 4, 2) := by decide +kernel
theorem dX12_when_35 : decode cX12_when 35 = .ok (.iload 4, 2) := by decide +kernel
theorem dX12_when_37 : decode cX12_when 37 = .ok (.bipush 99, 2) := by decide +kernel
theorem dX12_when_39 : decode cX12_when 39 = .ok (.if_icmp .gt 44, 3) := by decide +kernel
theorem dX12_when_42 : decode cX12_when 42 = .ok (.aload_n 0, 1) := by decide +kernel
theorem dX12_when_43 : decode cX12_when 43 = .ok (.getfield 42, 3) := by decide +kernel
theorem dX12_when_46 : decode cX12_when 46 = .ok (.bipush 29, 2) := by decide +kernel
theorem dX12_when_48 : decode cX12_when 48 = .ok (.iaload, 1) := by decide +kernel
theorem dX12_when_49 : decode cX12_when 49 = .ok (.iload_n 1, 1) := by decide +kernel
theorem dX12_when_50 : decode cX12_when 50 = .ok (.if_icmp .ne 19, 3) := by decide +kernel
theorem dX12_when_53 : decode cX12_when 53 = .ok (.iload_n 2, 1) := by decide +kernel
theorem dX12_when_54 : decode cX12_when 54 = .ok (.bipush (-2), 2) := by decide +kernel
theorem dX12_when_56 : decode cX12_when 56 = .ok (.if_icmp .ne 8, 3) := by decide +kernel
theorem dX12_when_59 : decode cX12_when 59 = .ok (.iload 4, 2) := by decide +kernel
theorem dX12_when_61 : decode cX12_when 61 = .ok (.goto 4, 3) := by decide +kernel
theorem dX12_when_64 : decode cX12_when 64 = .ok (.iload_n 2, 1) := by decide +kernel
theorem dX12_when_65 : decode cX12_when 65 = .ok (.istore_n 2, 1) := by decide +kernel
theorem dX12_when_66 : decode cX12_when 66 = .ok (.iinc 3 1, 3) := by decide +kernel
theorem dX12_when_69 : decode cX12_when 69 = .ok (.aload_n 0, 1) := by decide +kernel
theorem dX12_when_70 : decode cX12_when 70 = .ok (.aload_n 0, 1) := by decide +kernel
theorem dX12_when_71 : decode cX12_when 71 = .ok (.getfield 42, 3) := by decide +kernel
theorem dX12_when_74 : decode cX12_when 74 = .ok (.invokevirtual 230, 3) := by decide +kernel
theorem dX12_when_77 : decode cX12_when 77 = .ok (.iinc 4 1, 3) := by decide +kernel
theorem dX12_when_80 : decode cX12_when 80 = .ok (.goto (-45), 3) := by decide +kernel
theorem dX12_when_83 : decode cX12_when 83 = .ok (.iload_n 2, 1) := by decide +kernel
theorem dX12_when_84 : decode cX12_when 84 = .ok (.bipush (-2), 2) := by decide +kernel
theorem dX12_when_86 : decode cX12_when 86 = .ok (.if_icmp .ne 6, 3) := by decide +kernel
theorem dX12_when_89 : decode cX12_when 89 = .ok (.bipush (-2), 2) := by decide +kernel
theorem dX12_when_91 : decode cX12_when 91 = .ok (.ireturn, 1) := by decide +kernel
theorem dX12_when_92 : decode cX12_when 92 = .ok (.aload_n 0, 1) := by decide +kernel
theorem dX12_when_93 : decode cX12_when 93 = .ok (.iconst 0, 1) := by decide +kernel
theorem dX12_when_94 : decode cX12_when 94 = .ok (.putfield 92, 3) := by decide +kernel
theorem dX12_when_97 : decode cX12_when 97 = .ok (.aload_n 0, 1) := by decide +kernel
theorem dX12_when_98 : decode cX12_when 98 = .ok (.iload_n 3, 1) := by decide +kernel
theorem dX12_when_99 : decode cX12_when 99 = .ok (.i2l, 1) := by decide +kernel
theorem dX12_when_100 : decode cX12_when 100 = .ok (.invokevirtual 236, 3) := by decide +kernel
theorem dX12_when_103 : decode cX12_when 103 = .ok (.iload_n 2, 1) := by decide +kernel
theorem dX12_when_104 : decode cX12_when 104 = .ok (.ireturn, 1) := by decide +kernel
theorem dX12_shares_0 : decode cX12_shares 0 = .ok (.aload_n 0, 1) := by decide +kernel
theorem dX12_shares_1 : decode cX12_shares 1 = .ok (.iconst 0, 1) := by decide +kernel
theorem dX12_shares_2 : decode cX12_shares 2 = .ok (.putfield 88, 3) := by decide +kernel
theorem dX12_shares_5 : decode cX12_shares 5 = .ok (.iload_n 1, 1) := by decide +kernel
theorem dX12_shares_6 : decode cX12_shares 6 = .ok (.iconst 1, 1) := by decide +kernel
theorem dX12_shares_7 : decode cX12_shares 7 = .ok (.bipush 99, 2) := by decide +kernel
theorem dX12_shares_9 : decode cX12_shares 9 = .ok (.invokestatic 98, 3) := by decide +kernel
theorem dX12_shares_12 : decode cX12_shares 12 = .ok (.ifCond .ne 5, 3) := by decide +kernel
theorem dX12_shares_15 : decode cX12_shares 15 = .ok (.iconst (-1), 1) := by decide +kernel
theorem dX12_shares_16 : decode cX12_shares 16 = .ok (.ireturn, 1) := by decide +kernel
theorem dX12_shares_17 : decode cX12_shares 17 = .ok (.iconst 0, 1) := by decide +kernel
theorem dX12_shares_18 : decode cX12_shares 18 = .ok (.istore_n 2, 1) := by decide +kernel
theorem dX12_shares_19 : decode cX12_shares 19 = .ok (.iload_n 2, 1) := by decide +kernel
theorem dX12_shares_20 : decode cX12_shares 20 = .ok (.bipush 7, 2) := by decide +kernel
theorem dX12_shares_22 : decode cX12_shares 22 = .ok (.if_icmp .gt 16, 3) := by decide +kernel
theorem dX12_shares_25 : decode cX12_shares 25 = .ok (.aload_n 0, 1) := by decide +kernel
theorem dX12_shares_26 : decode cX12_shares 26 = .ok (.getfield 54, 3) := by decide +kernel
theorem dX12_shares_29 : decode cX12_shares 29 = .ok (.iload_n 2, 1) := by decide +kernel
theorem dX12_shares_30 : decode cX12_shares 30 = .ok (.iconst 0, 1) := by decide +kernel
theorem dX12_shares_31 : decode cX12_shares 31 = .ok (.iastore, 1) := by decide +kernel
theorem dX12_shares_32 : decode cX12_shares 32 = .ok (.iinc 2 1, 3) := by decide +kernel
theorem dX12_shares_35 : decode cX12_shares 35 = .ok (.goto (-16), 3) := by decide +kernel
theorem dX12_shares_38 : decode cX12_shares 38 = .ok (.aload_n 0, 1) := by decide +kernel
theorem dX12_shares_39 : decode cX12_shares 39 = .ok (.getfield 9, 3) := by decide +kernel
theorem dX12_shares_42 : decode cX12_shares 42 = .ok (.aload_n 0, 1) := by decide +kernel
theorem dX12_shares_43 : decode cX12_shares 43 = .ok (.getfield 42, 3) := by decide +kernel
theorem dX12_shares_46 : decode cX12_shares 46 = .ok (.iconst 0, 1) := by decide +kernel
theorem dX12_shares_47 : decode cX12_shares 47 = .ok (.invokestatic 219, 3) := by decide +kernel
theorem dX12_shares_50 : decode cX12_shares 50 = .ok (.iconst 0, 1) := by decide +kernel
theorem dX12_shares_51 : decode cX12_shares 51 = .ok (.istore_n 2, 1) := by decide +kernel
theorem dX12_shares_52 : decode cX12_shares 52 = .ok (.iload_n 2, 1) := by decide +kernel
theorem dX12_shares_53 : decode cX12_shares 53 = .ok (.iload_n 1, 1) := by decide +kernel
theorem dX12_shares_54 : decode cX12_shares 54 = .ok (.if_icmp .ge 33, 3) := by decide +kernel
theorem dX12_shares_57 : decode cX12_shares 57 = .ok (.aload_n 0, 1) := by decide +kernel
theorem dX12_shares_58 : decode cX12_shares 58 = .ok (.aload_n 0, 1) := by decide +kernel
theorem dX12_shares_59 : decode cX12_shares 59 = .ok (.getfield 42, 3) := by decide +kernel
theorem dX12_shares_62 : decode cX12_shares 62 = .ok (.invokevirtual 230, 3) := by decide +kernel
theorem dX12_shares_65 : decode cX12_shares 65 = .ok (.aload_n 0, 1) := by decide +kernel
theorem dX12_shares_66 : decode cX12_shares 66 = .ok (.getfield 54, 3) := by decide +kernel
theorem dX12_shares_69 : decode cX12_shares 69 = .ok (.aload_n 0, 1) := by decide +kernel
theorem dX12_shares_70 : decode cX12_shares 70 = .ok (.getfield 42, 3) := by decide +kernel
theorem dX12_shares_73 : decode cX12_shares 73 = .ok (.bipush 29, 2) := by decide +kernel
theorem dX12_shares_75 : decode cX12_shares 75 = .ok (.iaload, 1) := by decide +kernel
theorem dX12_shares_76 : decode cX12_shares 76 = .ok (.dup2, 1) := by decide +kernel
theorem dX12_shares_77 : decode cX12_shares 77 = .ok (.iaload, 1) := by decide +kernel
theorem dX12_shares_78 : decode cX12_shares 78 = .ok (.iconst 1, 1) := by decide +kernel
theorem dX12_shares_79 : decode cX12_shares 79 = .ok (.iadd, 1) := by decide +kernel
theorem dX12_shares_80 : decode cX12_shares 80 = .ok (.iastore, 1) := by decide +kernel
theorem dX12_shares_81 : decode cX12_shares 81 = .ok (.iinc 2 1, 3) := by decide +kernel
theorem dX12_shares_84 : decode cX12_shares 84 = .ok (.goto (-32), 3) := by decide +kernel
theorem dX12_shares_87 : decode cX12_shares 87 = .ok (.aload_n 0, 1) := by decide +kernel
theorem dX12_shares_88 : decode cX12_shares 88 = .ok (.iconst 0, 1) := by decide +kernel
theorem dX12_shares_89 : decode cX12_shares 89 = .ok (.putfield 92, 3) := by decide +kernel
theorem dX12_shares_92 : decode cX12_shares 92 = .ok (.iconst 0, 1) := by decide +kernel
theorem dX12_shares_93 : decode cX12_shares 93 = .ok (.istore_n 2, 1) := by decide +kernel
theorem dX12_shares_94 : decode cX12_shares 94 = .ok (.iload_n 2, 1) := by decide +kernel
theorem dX12_shares_95 : decode cX12_shares 95 = .ok (.aload_n 0, 1) := by decide +kernel
theorem dX12_shares_96 : decode cX12_shares 96 = .ok (.getfield 95, 3) := by decide +kernel
theorem dX12_shares_99 : decode cX12_shares 99 = .ok (.if_icmp .ge 20, 3) := by decide +kernel
theorem dX12_shares_102 : decode cX12_shares 102 = .ok (.aload_n 0, 1) := by decide +kernel
theorem dX12_shares_103 : decode cX12_shares 103 = .ok (.aload_n 0, 1) := by decide +kernel
theorem dX12_shares_104 : decode cX12_shares 104 = .ok (.getfield 54, 3) := by decide +kernel
theorem dX12_shares_107 : decode cX12_shares 107 = .ok (.iload_n 2, 1) := by decide +kernel
theorem dX12_shares_108 : decode cX12_shares 108 = .ok (.iaload, 1) := by decide +kernel
theorem dX12_shares_109 : decode cX12_shares 109 = .ok (.i2l, 1) := by decide +kernel
theorem dX12_shares_110 : decode cX12_shares 110 = .ok (.invokevirtual 236, 3) := by decide +kernel
theorem dX12_shares_113 : decode cX12_shares 113 = .ok (.iinc 2 1, 3) := by decide +kernel
theorem dX12_shares_116 : decode cX12_shares 116 = .ok (.goto (-22), 3) := by decide +kernel
theorem dX12_shares_119 : decode cX12_shares 119 = .ok (.aload_n 0, 1) := by decide +kernel
theorem dX12_shares_120 : decode cX12_shares 120 = .ok (.getfield 54, 3) := by decide +kernel
theorem dX12_shares_123 : decode cX12_shares 123 = .ok (.bipush 7, 2) := by decide +kernel
theorem dX12_shares_125 : decode cX12_shares 125 = .ok (.iaload, 1) := by decide +kernel
theorem dX12_shares_126 : decode cX12_shares 126 = .ok (.ireturn, 1) := by decide +kernel
theorem dX12_order_0 : decode cX12_order 0 = .ok (.aload_n 0, 1) := by decide +kernel
theorem dX12_order_1 : decode cX12_order 1 = .ok (.iconst 0, 1) := by decide +kernel
theorem dX12_order_2 : decode cX12_order 2 = .ok (.putfield 88, 3) := by decide +kernel
theorem dX12_order_5 : decode cX12_order 5 = .ok (.iload_n 1, 1) := by decide +kernel
theorem dX12_order_6 : decode cX12_order 6 = .ok (.iconst 1, 1) := by decide +kernel
theorem dX12_order_7 : decode cX12_order 7 = .ok (.bipush 99, 2) := by decide +kernel
theorem dX12_order_9 : decode cX12_order 9 = .ok (.invokestatic 98, 3) := by decide +kernel
theorem dX12_order_12 : decode cX12_order 12 = .ok (.ifCond .ne 5, 3) := by decide +kernel
theorem dX12_order_15 : decode cX12_order 15 = .ok (.iconst (-1), 1) := by decide +kernel
theorem dX12_order_16 : decode cX12_order 16 = .ok (.ireturn, 1) := by decide +kernel
theorem dX12_order_17 : decode cX12_order 17 = .ok (.aload_n 0, 1) := by decide +kernel
theorem dX12_order_18 : decode cX12_order 18 = .ok (.iload_n 1, 1) := by decide +kernel
theorem dX12_order_19 : decode cX12_order 19 = .ok (.invokevirtual 276, 3) := by decide +kernel
theorem dX12_order_22 : decode cX12_order 22 = .ok (.aload_n 0, 1) := by decide +kernel
theorem dX12_order_23 : decode cX12_order 23 = .ok (.iconst 0, 1) := by decide +kernel
theorem dX12_order_24 : decode cX12_order 24 = .ok (.putfield 92, 3) := by decide +kernel
theorem dX12_order_27 : decode cX12_order 27 = .ok (.iconst 0, 1) := by decide +kernel
theorem dX12_order_28 : decode cX12_order 28 = .ok (.istore_n 2, 1) := by decide +kernel
theorem dX12_order_29 : decode cX12_order 29 = .ok (.iload_n 2, 1) := by decide +kernel
theorem dX12_order_30 : decode cX12_order 30 = .ok (.aload_n 0, 1) := by decide +kernel
theorem dX12_order_31 : decode cX12_order 31 = .ok (.getfield 223, 3) := by decide +kernel
theorem dX12_order_34 : decode cX12_order 34 = .ok (.if_icmp .ge 26, 3) := by decide +kernel
theorem dX12_order_37 : decode cX12_order 37 = .ok (.iload_n 2, 1) := by decide +kernel
theorem dX12_order_38 : decode cX12_order 38 = .ok (.bipush 12, 2) := by decide +kernel
theorem dX12_order_40 : decode cX12_order 40 = .ok (.if_icmp .ge 20, 3) := by decide +kernel
theorem dX12_order_43 : decode cX12_order 43 = .ok (.aload_n 0, 1) := by decide +kernel
theorem dX12_order_44 : decode cX12_order 44 = .ok (.aload_n 0, 1) := by decide +kernel
theorem dX12_order_45 : decode cX12_order 45 = .ok (.getfield 48, 3) := by decide +kernel
theorem dX12_order_48 : decode cX12_order 48 = .ok (.iload_n 2, 1) := by decide +kernel
theorem dX12_order_49 : decode cX12_order 49 = .ok (.iaload, 1) := by decide +kernel
theorem dX12_order_50 : decode cX12_order 50 = .ok (.i2l, 1) := by decide +kernel
theorem dX12_order_51 : decode cX12_order 51 = .ok (.invokevirtual 236, 3) := by decide +kernel
theorem dX12_order_54 : decode cX12_order 54 = .ok (.iinc 2 1, 3) := by decide +kernel
theorem dX12_order_57 : decode cX12_order 57 = .ok (.goto (-28), 3) := by decide +kernel
theorem dX12_order_60 : decode cX12_order 60 = .ok (.aload_n 0, 1) := by decide +kernel
theorem dX12_order_61 : decode cX12_order 61 = .ok (.getfield 223, 3) := by decide +kernel
theorem dX12_order_64 : decode cX12_order 64 = .ok (.ireturn, 1) := by decide +kernel
theorem dX12_empty_0 : decode cX12_empty 0 = .ok (.aload_n 0, 1) := by decide +kernel
theorem dX12_empty_1 : decode cX12_empty 1 = .ok (.iconst 0, 1) := by decide +kernel
theorem dX12_empty_2 : decode cX12_empty 2 = .ok (.putfield 88, 3) := by decide +kernel
theorem dX12_empty_5 : decode cX12_empty 5 = .ok (.aload_n 0, 1) := by decide +kernel
theorem dX12_empty_6 : decode cX12_empty 6 = .ok (.getfield 9, 3) := by decide +kernel
theorem dX12_empty_9 : decode cX12_empty 9 = .ok (.aload_n 0, 1) := by decide +kernel
theorem dX12_empty_10 : decode cX12_empty 10 = .ok (.getfield 42, 3) := by decide +kernel
theorem dX12_empty_13 : decode cX12_empty 13 = .ok (.iconst 0, 1) := by decide +kernel
theorem dX12_empty_14 : decode cX12_empty 14 = .ok (.invokestatic 219, 3) := by decide +kernel
theorem dX12_empty_17 : decode cX12_empty 17 = .ok (.iconst 0, 1) := by decide +kernel
theorem dX12_empty_18 : decode cX12_empty 18 = .ok (.istore_n 1, 1) := by decide +kernel
theorem dX12_empty_19 : decode cX12_empty 19 = .ok (.iload_n 1, 1) := by decide +kernel
theorem dX12_empty_20 : decode cX12_empty 20 = .ok (.bipush 99, 2) := by decide +kernel
theorem dX12_empty_22 : decode cX12_empty 22 = .ok (.if_icmp .gt 47, 3) := by decide +kernel
theorem dX12_empty_25 : decode cX12_empty 25 = .ok (.aload_n 0, 1) := by decide +kernel
theorem dX12_empty_26 : decode cX12_empty 26 = .ok (.aload_n 0, 1) := by decide +kernel
theorem dX12_empty_27 : decode cX12_empty 27 = .ok (.getfield 42, 3) := by decide +kernel
theorem dX12_empty_30 : decode cX12_empty 30 = .ok (.invokevirtual 240, 3) := by decide +kernel
theorem dX12_empty_33 : decode cX12_empty 33 = .ok (.ifCond .ne 22, 3) := by decide +kernel
theorem dX12_empty_36 : decode cX12_empty 36 = .ok (.aload_n 0, 1) := by decide +kernel
theorem dX12_empty_37 : decode cX12_empty 37 = .ok (.iconst 0, 1) := by decide +kernel
theorem dX12_empty_38 : decode cX12_empty 38 = .ok (.putfield 92, 3) := by decide +kernel
theorem dX12_empty_41 : decode cX12_empty 41 = .ok (.aload_n 0, 1) := by decide +kernel
theorem dX12_empty_42 : decode cX12_empty 42 = .ok (.aload_n 0, 1) := by decide +kernel
theorem dX12_empty_43 : decode cX12_empty 43 = .ok (.getfield 42, 3) := by decide +kernel
theorem dX12_empty_46 : decode cX12_empty 46 = .ok (.bipush 29, 2) := by decide +kernel
theorem dX12_empty_48 : decode cX12_empty 48 = .ok (.iaload, 1) := by decide +kernel
theorem dX12_empty_49 : decode cX12_empty 49 = .ok (.i2l, 1) := by decide +kernel
theorem dX12_empty_50 : decode cX12_empty 50 = .ok (.invokevirtual 236, 3) := by decide +kernel
theorem dX12_empty_53 : decode cX12_empty 53 = .ok (.iload_n 1, 1) := by decide +kernel
theorem dX12_empty_54 : decode cX12_empty 54 = .ok (.ireturn, 1) := by decide +kernel
theorem dX12_empty_55 : decode cX12_empty 55 = .ok (.aload_n 0, 1) := by decide +kernel
theorem dX12_empty_56 : decode cX12_empty 56 = .ok (.aload_n 0, 1) := by decide +kernel
theorem dX12_empty_57 : decode cX12_empty 57 = .ok (.getfield 42, 3) := by decide +kernel
theorem dX12_empty_60 : decode cX12_empty 60 = .ok (.invokevirtual 230, 3) := by decide +kernel
theorem dX12_empty_63 : decode cX12_empty 63 = .ok (.iinc 1 1, 3) := by decide +kernel
theorem dX12_empty_66 : decode cX12_empty 66 = .ok (.goto (-47), 3) := by decide +kernel
theorem dX12_empty_69 : decode cX12_empty 69 = .ok (.bipush (-2), 2) := by decide +kernel
theorem dX12_empty_71 : decode cX12_empty 71 = .ok (.ireturn, 1) := by decide +kernel
theorem dX12_high_0 : decode cX12_high 0 = .ok (.aload_n 0, 1) := by decide +kernel
theorem dX12_high_1 : decode cX12_high 1 = .ok (.iconst 0, 1) := by decide +kernel
theorem dX12_high_2 : decode cX12_high 2 = .ok (.putfield 88, 3) := by decide +kernel
theorem dX12_high_5 : decode cX12_high 5 = .ok (.aload_n 0, 1) := by decide +kernel
theorem dX12_high_6 : decode cX12_high 6 = .ok (.iload_n 1, 1) := by decide +kernel
theorem dX12_high_7 : decode cX12_high 7 = .ok (.invokevirtual 205, 3) := by decide +kernel
theorem dX12_high_10 : decode cX12_high 10 = .ok (.ifCond .eq 13, 3) := by decide +kernel
theorem dX12_high_13 : decode cX12_high 13 = .ok (.iload_n 2, 1) := by decide +kernel
theorem dX12_high_14 : decode cX12_high 14 = .ok (.iconst 0, 1) := by decide +kernel
theorem dX12_high_15 : decode cX12_high 15 = .ok (.bipush 99, 2) := by decide +kernel
theorem dX12_high_17 : decode cX12_high 17 = .ok (.invokestatic 98, 3) := by decide +kernel
theorem dX12_high_20 : decode cX12_high 20 = .ok (.ifCond .ne 5, 3) := by decide +kernel
theorem dX12_high_23 : decode cX12_high 23 = .ok (.iconst (-1), 1) := by decide +kernel
theorem dX12_high_24 : decode cX12_high 24 = .ok (.ireturn, 1) := by decide +kernel
theorem dX12_high_25 : decode cX12_high 25 = .ok (.aload_n 0, 1) := by decide +kernel
theorem dX12_high_26 : decode cX12_high 26 = .ok (.iload_n 2, 1) := by decide +kernel
theorem dX12_high_27 : decode cX12_high 27 = .ok (.invokevirtual 276, 3) := by decide +kernel
theorem dX12_high_30 : decode cX12_high 30 = .ok (.aload_n 0, 1) := by decide +kernel
theorem dX12_high_31 : decode cX12_high 31 = .ok (.iconst 0, 1) := by decide +kernel
theorem dX12_high_32 : decode cX12_high 32 = .ok (.putfield 92, 3) := by decide +kernel
theorem dX12_high_35 : decode cX12_high 35 = .ok (.aload_n 0, 1) := by decide +kernel
theorem dX12_high_36 : decode cX12_high 36 = .ok (.aload_n 0, 1) := by decide +kernel
theorem dX12_high_37 : decode cX12_high 37 = .ok (.getfield 42, 3) := by decide +kernel
theorem dX12_high_40 : decode cX12_high 40 = .ok (.bipush 7, 2) := by decide +kernel
theorem dX12_high_42 : decode cX12_high 42 = .ok (.iload_n 1, 1) := by decide +kernel
theorem dX12_high_43 : decode cX12_high 43 = .ok (.iadd, 1) := by decide +kernel
theorem dX12_high_44 : decode cX12_high 44 = .ok (.iaload, 1) := by decide +kernel
theorem dX12_high_45 : decode cX12_high 45 = .ok (.i2l, 1) := by decide +kernel
theorem dX12_high_46 : decode cX12_high 46 = .ok (.invokevirtual 236, 3) := by decide +kernel
