theorem dX12_high_49 : decode cX12_high 49 = .ok (.aload_n 0, 1) := by decide +kernel
theorem dX12_high_50 : decode cX12_high 50 = .ok (.aload_n 0, 1) := by decide +kernel
theorem dX12_high_51 : decode cX12_high 51 = .ok (.getfield 42, 3) := by decide +kernel
theorem dX12_high_54 : decode cX12_high 54 = .ok (.bipush 21, 2) := by decide +kernel
theorem dX12_high_56 : decode cX12_high 56 = .ok (.iload_n 1, 1) := by decide +kernel
theorem dX12_high_57 : decode cX12_high 57 = .ok (.iadd, 1) := by decide +kernel
theorem dX12_high_58 : decode cX12_high 58 = .ok (.iaload, 1) := by decide +kernel
theorem dX12_high_59 : decode cX12_high 59 = .ok (.i2l, 1) := by decide +kernel
theorem dX12_high_60 : decode cX12_high 60 = .ok (.invokevirtual 236, 3) := by decide +kernel
theorem dX12_high_63 : decode cX12_high 63 = .ok (.aload_n 0, 1) := by decide +kernel
theorem dX12_high_64 : decode cX12_high 64 = .ok (.getfield 42, 3) := by decide +kernel
theorem dX12_high_67 : decode cX12_high 67 = .ok (.iload_n 1, 1) := by decide +kernel
theorem dX12_high_68 : decode cX12_high 68 = .ok (.iaload, 1) := by decide +kernel
theorem dX12_high_69 : decode cX12_high 69 = .ok (.ireturn, 1) := by decide +kernel
theorem dX12_comes_0 : decode cX12_comes 0 = .ok (.aload_n 0, 1) := by decide +kernel
theorem dX12_comes_1 : decode cX12_comes 1 = .ok (.iconst 0, 1) := by decide +kernel
theorem dX12_comes_2 : decode cX12_comes 2 = .ok (.putfield 88, 3) := by decide +kernel
theorem dX12_comes_5 : decode cX12_comes 5 = .ok (.aload_n 0, 1) := by decide +kernel
theorem dX12_comes_6 : decode cX12_comes 6 = .ok (.iload_n 1, 1) := by decide +kernel
theorem dX12_comes_7 : decode cX12_comes 7 = .ok (.invokevirtual 205, 3) := by decide +kernel
theorem dX12_comes_10 : decode cX12_comes 10 = .ok (.ifCond .ne 5, 3) := by decide +kernel
theorem dX12_comes_13 : decode cX12_comes 13 = .ok (.iconst (-1), 1) := by decide +kernel
theorem dX12_comes_14 : decode cX12_comes 14 = .ok (.ireturn, 1) := by decide +kernel
theorem dX12_comes_15 : decode cX12_comes 15 = .ok (.aload_n 0, 1) := by decide +kernel
theorem dX12_comes_16 : decode cX12_comes 16 = .ok (.getfield 9, 3) := by decide +kernel
theorem dX12_comes_19 : decode cX12_comes 19 = .ok (.aload_n 0, 1) := by decide +kernel
theorem dX12_comes_20 : decode cX12_comes 20 = .ok (.getfield 42, 3) := by decide +kernel
theorem dX12_comes_23 : decode cX12_comes 23 = .ok (.iconst 0, 1) := by decide +kernel
theorem dX12_comes_24 : decode cX12_comes 24 = .ok (.invokestatic 219, 3) := by decide +kernel
theorem dX12_comes_27 : decode cX12_comes 27 = .ok (.bipush (-2), 2) := by decide +kernel
theorem dX12_comes_29 : decode cX12_comes 29 = .ok (.istore_n 2, 1) := by decide +kernel
theorem dX12_comes_30 : decode cX12_comes 30 = .ok (.iconst 0, 1) := by decide +kernel
theorem dX12_comes_31 : decode cX12_comes 31 = .ok (.istore_n 3, 1) := by decide +kernel
theorem dX12_comes_32 : decode cX12_comes 32 = .ok (.iconst 1, 1) := by decide +kernel
theorem dX12_comes_33 : decode cX12_comes 33 = .ok (.istore 4, 2) := by decide +kernel
theorem dX12_comes_35 : decode cX12_comes 35 = .ok (.iload 4, 2) := by decide +kernel
theorem dX12_comes_37 : decode cX12_comes 37 = .ok (.bipush 99, 2) := by decide +kernel
theorem dX12_comes_39 : decode cX12_comes 39 = .ok (.if_icmp .gt 72, 3) := by decide +kernel
theorem dX12_comes_42 : decode cX12_comes 42 = .ok (.aload_n 0, 1) := by decide +kernel
theorem dX12_comes_43 : decode cX12_comes 43 = .ok (.getfield 42, 3) := by decide +kernel
theorem dX12_comes_46 : decode cX12_comes 46 = .ok (.bipush 7, 2) := by decide +kernel
theorem dX12_comes_48 : decode cX12_comes 48 = .ok (.iload_n 1, 1) := by decide +kernel
theorem dX12_comes_49 : decode cX12_comes 49 = .ok (.iadd, 1) := by decide +kernel
theorem dX12_comes_50 : decode cX12_comes 50 = .ok (.iaload, 1) := by decide +kernel
theorem dX12_comes_51 : decode cX12_comes 51 = .ok (.ifCond .eq 7, 3) := by decide +kernel
theorem dX12_comes_54 : decode cX12_comes 54 = .ok (.iconst 1, 1) := by decide +kernel
theorem dX12_comes_55 : decode cX12_comes 55 = .ok (.goto 4, 3) := by decide +kernel
theorem dX12_comes_58 : decode cX12_comes 58 = .ok (.iconst 0, 1) := by decide +kernel
theorem dX12_comes_59 : decode cX12_comes 59 = .ok (.istore 5, 2) := by decide +kernel
theorem dX12_comes_61 : decode cX12_comes 61 = .ok (.aload_n 0, 1) := by decide +kernel
theorem dX12_comes_62 : decode cX12_comes 62 = .ok (.aload_n 0, 1) := by decide +kernel
theorem dX12_comes_63 : decode cX12_comes 63 = .ok (.getfield 42, 3) := by decide +kernel
theorem dX12_comes_66 : decode cX12_comes 66 = .ok (.invokevirtual 230, 3) := by decide +kernel
theorem dX12_comes_69 : decode cX12_comes 69 = .ok (.iload 5, 2) := by decide +kernel
theorem dX12_comes_71 : decode cX12_comes 71 = .ok (.ifCond .eq 34, 3) := by decide +kernel
theorem dX12_comes_74 : decode cX12_comes 74 = .ok (.aload_n 0, 1) := by decide +kernel
theorem dX12_comes_75 : decode cX12_comes 75 = .ok (.getfield 42, 3) := by decide +kernel
theorem dX12_comes_78 : decode cX12_comes 78 = .ok (.bipush 7, 2) := by decide +kernel
theorem dX12_comes_80 : decode cX12_comes 80 = .ok (.iload_n 1, 1) := by decide +kernel
theorem dX12_comes_81 : decode cX12_comes 81 = .ok (.iadd, 1) := by decide +kernel
theorem dX12_comes_82 : decode cX12_comes 82 = .ok (.iaload, 1) := by decide +kernel
theorem dX12_comes_83 : decode cX12_comes 83 = .ok (.ifCond .eq 6, 3) := by decide +kernel
theorem dX12_comes_86 : decode cX12_comes 86 = .ok (.goto 19, 3) := by decide +kernel
theorem dX12_comes_89 : decode cX12_comes 89 = .ok (.iload_n 2, 1) := by decide +kernel
theorem dX12_comes_90 : decode cX12_comes 90 = .ok (.bipush (-2), 2) := by decide +kernel
theorem dX12_comes_92 : decode cX12_comes 92 = .ok (.if_icmp .ne 8, 3) := by decide +kernel
theorem dX12_comes_95 : decode cX12_comes 95 = .ok (.iload 4, 2) := by decide +kernel
theorem dX12_comes_97 : decode cX12_comes 97 = .ok (.goto 4, 3) := by decide +kernel
theorem dX12_comes_100 : decode cX12_comes 100 = .ok (.iload_n 2, 1) := by decide +kernel
theorem dX12_comes_101 : decode cX12_comes 101 = .ok (.istore_n 2, 1) := by decide +kernel
theorem dX12_comes_102 : decode cX12_comes 102 = .ok (.iinc 3 1, 3) := by decide +kernel
theorem dX12_comes_105 : decode cX12_comes 105 = .ok (.iinc 4 1, 3) := by decide +kernel
theorem dX12_comes_108 : decode cX12_comes 108 = .ok (.goto (-73), 3) := by decide +kernel
theorem dX12_comes_111 : decode cX12_comes 111 = .ok (.iload_n 2, 1) := by decide +kernel
theorem dX12_comes_112 : decode cX12_comes 112 = .ok (.bipush (-2), 2) := by decide +kernel
theorem dX12_comes_114 : decode cX12_comes 114 = .ok (.if_icmp .ne 6, 3) := by decide +kernel
theorem dX12_comes_117 : decode cX12_comes 117 = .ok (.bipush (-2), 2) := by decide +kernel
theorem dX12_comes_119 : decode cX12_comes 119 = .ok (.ireturn, 1) := by decide +kernel
theorem dX12_comes_120 : decode cX12_comes 120 = .ok (.aload_n 0, 1) := by decide +kernel
theorem dX12_comes_121 : decode cX12_comes 121 = .ok (.iconst 0, 1) := by decide +kernel
theorem dX12_comes_122 : decode cX12_comes 122 = .ok (.putfield 92, 3) := by decide +kernel
theorem dX12_comes_125 : decode cX12_comes 125 = .ok (.aload_n 0, 1) := by decide +kernel
theorem dX12_comes_126 : decode cX12_comes 126 = .ok (.iload_n 3, 1) := by decide +kernel
theorem dX12_comes_127 : decode cX12_comes 127 = .ok (.i2l, 1) := by decide +kernel
theorem dX12_comes_128 : decode cX12_comes 128 = .ok (.invokevirtual 236, 3) := by decide +kernel
theorem dX12_comes_131 : decode cX12_comes 131 = .ok (.iload_n 2, 1) := by decide +kernel
theorem dX12_comes_132 : decode cX12_comes 132 = .ok (.ireturn, 1) := by decide +kernel
theorem dX12_walkingAt_0 : decode cX12_walkingAt 0 = .ok (.iconst 0, 1) := by decide +kernel
theorem dX12_walkingAt_1 : decode cX12_walkingAt 1 = .ok (.istore_n 3, 1) := by decide +kernel
theorem dX12_walkingAt_2 : decode cX12_walkingAt 2 = .ok (.iconst 0, 1) := by decide +kernel
theorem dX12_walkingAt_3 : decode cX12_walkingAt 3 = .ok (.istore 4, 2) := by decide +kernel
theorem dX12_walkingAt_5 : decode cX12_walkingAt 5 = .ok (.iload 4, 2) := by decide +kernel
theorem dX12_walkingAt_7 : decode cX12_walkingAt 7 = .ok (.aload_n 0, 1) := by decide +kernel
theorem dX12_walkingAt_8 : decode cX12_walkingAt 8 = .ok (.getfield 95, 3) := by decide +kernel
theorem dX12_walkingAt_11 : decode cX12_walkingAt 11 = .ok (.if_icmp .ge 35, 3) := by decide +kernel
theorem dX12_walkingAt_14 : decode cX12_walkingAt 14 = .ok (.iload_n 3, 1) := by decide +kernel
theorem dX12_walkingAt_15 : decode cX12_walkingAt 15 = .ok (.aload_n 1, 1) := by decide +kernel
theorem dX12_walkingAt_16 : decode cX12_walkingAt 16 = .ok (.bipush 7, 2) := by decide +kernel
theorem dX12_walkingAt_18 : decode cX12_walkingAt 18 = .ok (.iload 4, 2) := by decide +kernel
theorem dX12_walkingAt_20 : decode cX12_walkingAt 20 = .ok (.iadd, 1) := by decide +kernel
theorem dX12_walkingAt_21 : decode cX12_walkingAt 21 = .ok (.iaload, 1) := by decide +kernel
theorem dX12_walkingAt_22 : decode cX12_walkingAt 22 = .ok (.ifCond .eq 15, 3) := by decide +kernel
theorem dX12_walkingAt_25 : decode cX12_walkingAt 25 = .ok (.aload_n 1, 1) := by decide +kernel
theorem dX12_walkingAt_26 : decode cX12_walkingAt 26 = .ok (.iload 4, 2) := by decide +kernel
theorem dX12_walkingAt_28 : decode cX12_walkingAt 28 = .ok (.iaload, 1) := by decide +kernel
theorem dX12_walkingAt_29 : decode cX12_walkingAt 29 = .ok (.iload_n 2, 1) := by decide +kernel
theorem dX12_walkingAt_30 : decode cX12_walkingAt 30 = .ok (.if_icmp .ne 7, 3) := by decide +kernel
theorem dX12_walkingAt_33 : decode cX12_walkingAt 33 = .ok (.iconst 1, 1) := by decide +kernel
theorem dX12_walkingAt_34 : decode cX12_walkingAt 34 = .ok (.goto 4, 3) := by decide +kernel
theorem dX12_walkingAt_37 : decode cX12_walkingAt 37 = .ok (.iconst 0, 1) := by decide +kernel
theorem dX12_walkingAt_38 : decode cX12_walkingAt 38 = .ok (.iadd, 1) := by decide +kernel
theorem dX12_walkingAt_39 : decode cX12_walkingAt 39 = .ok (.istore_n 3, 1) := by decide +kernel
theorem dX12_walkingAt_40 : decode cX12_walkingAt 40 = .ok (.iinc 4 1, 3) := by decide +kernel
theorem dX12_walkingAt_43 : decode cX12_walkingAt 43 = .ok (.goto (-38), 3) := by decide +kernel
theorem dX12_walkingAt_46 : decode cX12_walkingAt 46 = .ok (.iload_n 3, 1) := by decide +kernel
theorem dX12_walkingAt_47 : decode cX12_walkingAt 47 = .ok (.ireturn, 1) := by decide +kernel
theorem dX12_crowd_0 : decode cX12_crowd 0 = .ok (.aload_n 0, 1) := by decide +kernel
theorem dX12_crowd_1 : decode cX12_crowd 1 = .ok (.iconst 0, 1) := by decide +kernel
theorem dX12_crowd_2 : decode cX12_crowd 2 = .ok (.putfield 88, 3) := by decide +kernel
theorem dX12_crowd_5 : decode cX12_crowd 5 = .ok (.iload_n 1, 1) := by decide +kernel
theorem dX12_crowd_6 : decode cX12_crowd 6 = .ok (.iconst 0, 1) := by decide +kernel
theorem dX12_crowd_7 : decode cX12_crowd 7 = .ok (.bipush 99, 2) := by decide +kernel
theorem dX12_crowd_9 : decode cX12_crowd 9 = .ok (.invokestatic 98, 3) := by decide +kernel
theorem dX12_crowd_12 : decode cX12_crowd 12 = .ok (.ifCond .ne 5, 3) := by decide +kernel
theorem dX12_crowd_15 : decode cX12_crowd 15 = .ok (.iconst (-1), 1) := by decide +kernel
theorem dX12_crowd_16 : decode cX12_crowd 16 = .ok (.ireturn, 1) := by decide +kernel
theorem dX12_crowd_17 : decode cX12_crowd 17 = .ok (.iconst 0, 1) := by decide +kernel
theorem dX12_crowd_18 : decode cX12_crowd 18 = .ok (.istore_n 2, 1) := by decide +kernel
theorem dX12_crowd_19 : decode cX12_crowd 19 = .ok (.iconst 0, 1) := by decide +kernel
theorem dX12_crowd_20 : decode cX12_crowd 20 = .ok (.istore_n 3, 1) := by decide +kernel
theorem dX12_crowd_21 : decode cX12_crowd 21 = .ok (.iconst 0, 1) := by decide +kernel
theorem dX12_crowd_22 : decode cX12_crowd 22 = .ok (.istore 4, 2) := by decide +kernel
theorem dX12_crowd_24 : decode cX12_crowd 24 = .ok (.aload_n 0, 1) := by decide +kernel
theorem dX12_crowd_25 : decode cX12_crowd 25 = .ok (.getfield 9, 3) := by decide +kernel
theorem dX12_crowd_28 : decode cX12_crowd 28 = .ok (.aload_n 0, 1) := by decide +kernel
theorem dX12_crowd_29 : decode cX12_crowd 29 = .ok (.getfield 42, 3) := by decide +kernel
theorem dX12_crowd_32 : decode cX12_crowd 32 = .ok (.iconst 0, 1) := by decide +kernel
theorem dX12_crowd_33 : decode cX12_crowd 33 = .ok (.invokestatic 219, 3) := by decide +kernel
theorem dX12_crowd_36 : decode cX12_crowd 36 = .ok (.iconst 0, 1) := by decide +kernel
theorem dX12_crowd_37 : decode cX12_crowd 37 = .ok (.istore 5, 2) := by decide +kernel
theorem dX12_crowd_39 : decode cX12_crowd 39 = .ok (.iload 5, 2) := by decide +kernel
theorem dX12_crowd_41 : decode cX12_crowd 41 = .ok (.iload_n 1, 1) := by decide +kernel
theorem dX12_crowd_42 : decode cX12_crowd 42 = .ok (.if_icmp .gt 68, 3) := by decide +kernel
theorem dX12_crowd_45 : decode cX12_crowd 45 = .ok (.iconst 0, 1) := by decide +kernel
theorem dX12_crowd_46 : decode cX12_crowd 46 = .ok (.istore 6, 2) := by decide +kernel
theorem dX12_crowd_48 : decode cX12_crowd 48 = .ok (.iload 6, 2) := by decide +kernel
theorem dX12_crowd_50 : decode cX12_crowd 50 = .ok (.bipush 9, 2) := by decide +kernel
theorem dX12_crowd_52 : decode cX12_crowd 52 = .ok (.if_icmp .gt 44, 3) := by decide +kernel
theorem dX12_crowd_55 : decode cX12_crowd 55 = .ok (.aload_n 0, 1) := by decide +kernel
theorem dX12_crowd_56 : decode cX12_crowd 56 = .ok (.aload_n 0, 1) := by decide +kernel
theorem dX12_crowd_57 : decode cX12_crowd 57 = .ok (.getfield 42, 3) := by decide +kernel
theorem dX12_crowd_60 : decode cX12_crowd 60 = .ok (.iload 6, 2) := by decide +kernel
theorem dX12_crowd_62 : decode cX12_crowd 62 = .ok (.invokevirtual 279, 3) := by decide +kernel
theorem dX12_crowd_65 : decode cX12_crowd 65 = .ok (.iload_n 2, 1) := by decide +kernel
theorem dX12_crowd_66 : decode cX12_crowd 66 = .ok (.if_icmp .gt 6, 3) := by decide +kernel
theorem dX12_crowd_69 : decode cX12_crowd 69 = .ok (.goto 21, 3) := by decide +kernel
theorem dX12_crowd_72 : decode cX12_crowd 72 = .ok (.aload_n 0, 1) := by decide +kernel
theorem dX12_crowd_73 : decode cX12_crowd 73 = .ok (.aload_n 0, 1) := by decide +kernel
theorem dX12_crowd_74 : decode cX12_crowd 74 = .ok (.getfield 42, 3) := by decide +kernel
theorem dX12_crowd_77 : decode cX12_crowd 77 = .ok (.iload 6, 2) := by decide +kernel
theorem dX12_crowd_79 : decode cX12_crowd 79 = .ok (.invokevirtual 279, 3) := by decide +kernel
theorem dX12_crowd_82 : decode cX12_crowd 82 = .ok (.istore_n 2, 1) := by decide +kernel
theorem dX12_crowd_83 : decode cX12_crowd 83 = .ok (.iload 6, 2) := by decide +kernel
theorem dX12_crowd_85 : decode cX12_crowd 85 = .ok (.istore_n 3, 1) := by decide +kernel
theorem dX12_crowd_86 : decode cX12_crowd 86 = .ok (.iload 5, 2) := by decide +kernel
theorem dX12_crowd_88 : decode cX12_crowd 88 = .ok (.istore 4, 2) := by decide +kernel
theorem dX12_crowd_90 : decode cX12_crowd 90 = .ok (.iinc 6 1, 3) := by decide +kernel
theorem dX12_crowd_93 : decode cX12_crowd 93 = .ok (.goto (-45), 3) := by decide +kernel
theorem dX12_crowd_96 : decode cX12_crowd 96 = .ok (.aload_n 0, 1) := by decide +kernel
theorem dX12_crowd_97 : decode cX12_crowd 97 = .ok (.aload_n 0, 1) := by decide +kernel
theorem dX12_crowd_98 : decode cX12_crowd 98 = .ok (.getfield 42, 3) := by decide +kernel
theorem dX12_crowd_101 : decode cX12_crowd 101 = .ok (.invokevirtual 230, 3) := by decide +kernel
theorem dX12_crowd_104 : decode cX12_crowd 104 = .ok (.iinc 5 1, 3) := by decide +kernel
theorem dX12_crowd_107 : decode cX12_crowd 107 = .ok (.goto (-68), 3) := by decide +kernel
theorem dX12_crowd_110 : decode cX12_crowd 110 = .ok (.aload_n 0, 1) := by decide +kernel
theorem dX12_crowd_111 : decode cX12_crowd 111 = .ok (.iconst 0, 1) := by decide +kernel
theorem dX12_crowd_112 : decode cX12_crowd 112 = .ok (.putfield 92, 3) := by decide +kernel
theorem dX12_crowd_115 : decode cX12_crowd 115 = .ok (.iload_n 2, 1) := by decide +kernel
theorem dX12_crowd_116 : decode cX12_crowd 116 = .ok (.ifCond .le 16, 3) := by decide +kernel
theorem dX12_crowd_119 : decode cX12_crowd 119 = .ok (.aload_n 0, 1) := by decide +kernel
theorem dX12_crowd_120 : decode cX12_crowd 120 = .ok (.iload_n 3, 1) := by decide +kernel
theorem dX12_crowd_121 : decode cX12_crowd 121 = .ok (.i2l, 1) := by decide +kernel
theorem dX12_crowd_122 : decode cX12_crowd 122 = .ok (.invokevirtual 236, 3) := by decide +kernel
theorem dX12_crowd_125 : decode cX12_crowd 125 = .ok (.aload_n 0, 1) := by decide +kernel
theorem dX12_crowd_126 : decode cX12_crowd 126 = .ok (.iload 4, 2) := by decide +kernel
theorem dX12_crowd_128 : decode cX12_crowd 128 = .ok (.i2l, 1) := by decide +kernel
theorem dX12_crowd_129 : decode cX12_crowd 129 = .ok (.invokevirtual 236, 3) := by decide +kernel
theorem dX12_crowd_132 : decode cX12_crowd 132 = .ok (.iload_n 2, 1) := by decide +kernel
theorem dX12_crowd_133 : decode cX12_crowd 133 = .ok (.ireturn, 1) := by decide +kernel
theorem dX12_changes_0 : decode cX12_changes 0 = .ok (.aload_n 0, 1) := by decide +kernel
theorem dX12_changes_1 : decode cX12_changes 1 = .ok (.iconst 0, 1) := by decide +kernel
theorem dX12_changes_2 : decode cX12_changes 2 = .ok (.putfield 88, 3) := by decide +kernel
theorem dX12_changes_5 : decode cX12_changes 5 = .ok (.iload_n 1, 1) := by decide +kernel
theorem dX12_changes_6 : decode cX12_changes 6 = .ok (.iconst 1, 1) := by decide +kernel
theorem dX12_changes_7 : decode cX12_changes 7 = .ok (.bipush 99, 2) := by decide +kernel
theorem dX12_changes_9 : decode cX12_changes 9 = .ok (.invokestatic 98, 3) := by decide +kernel
theorem dX12_changes_12 : decode cX12_changes 12 = .ok (.ifCond .ne 5, 3) := by decide +kernel
theorem dX12_changes_15 : decode cX12_changes 15 = .ok (.iconst (-1), 1) := by decide +kernel
theorem dX12_changes_16 : decode cX12_changes 16 = .ok (.ireturn, 1) := by decide +kernel
theorem dX12_changes_17 : decode cX12_changes 17 = .ok (.iconst 0, 1) := by decide +kernel
theorem dX12_changes_18 : decode cX12_changes 18 = .ok (.istore_n 2, 1) := by decide +kernel
theorem dX12_changes_19 : decode cX12_changes 19 = .ok (.iconst 0, 1) := by decide +kernel
theorem dX12_changes_20 : decode cX12_changes 20 = .ok (.istore_n 3, 1) := by decide +kernel
theorem dX12_changes_21 : decode cX12_changes 21 = .ok (.iconst 0, 1) := by decide +kernel
theorem dX12_changes_22 : decode cX12_changes 22 = .ok (.istore 4, 2) := by decide +kernel
theorem dX12_changes_24 : decode cX12_changes 24 = .ok (.bipush 7, 2) := by decide +kernel
theorem dX12_changes_26 : decode cX12_changes 26 = .ok (.istore 5, 2) := by decide +kernel
theorem dX12_changes_28 : decode cX12_changes 28 = .ok (.aload_n 0, 1) := by decide +kernel
theorem dX12_changes_29 : decode cX12_changes 29 = .ok (.getfield 9, 3) := by decide +kernel
theorem dX12_changes_32 : decode cX12_changes 32 = .ok (.aload_n 0, 1) := by decide +kernel
theorem dX12_changes_33 : decode cX12_changes 33 = .ok (.getfield 42, 3) := by decide +kernel
theorem dX12_changes_36 : decode cX12_changes 36 = .ok (.iconst 0, 1) := by decide +kernel
theorem dX12_changes_37 : decode cX12_changes 37 = .ok (.invokestatic 219, 3) := by decide +kernel
theorem dX12_changes_40 : decode cX12_changes 40 = .ok (.iconst 1, 1) := by decide +kernel
theorem dX12_changes_41 : decode cX12_changes 41 = .ok (.istore 6, 2) := by decide +kernel
theorem dX12_changes_43 : decode cX12_changes 43 = .ok (.iload 6, 2) := by decide +kernel
theorem dX12_changes_45 : decode cX12_changes 45 = .ok (.iload_n 1, 1) := by decide +kernel
theorem dX12_changes_46 : decode cX12_changes 46 = .ok (.if_icmp .gt 98, 3) := by decide +kernel
theorem dX12_changes_49 : decode cX12_changes 49 = .ok (.aload_n 0, 1) := by decide +kernel
theorem dX12_changes_50 : decode cX12_changes 50 = .ok (.getfield 42, 3) := by decide +kernel
theorem dX12_changes_53 : decode cX12_changes 53 = .ok (.bipush 29, 2) := by decide +kernel
theorem dX12_changes_55 : decode cX12_changes 55 = .ok (.iaload, 1) := by decide +kernel
theorem dX12_changes_56 : decode cX12_changes 56 = .ok (.istore 7, 2) := by decide +kernel
theorem dX12_changes_58 : decode cX12_changes 58 = .ok (.aload_n 0, 1) := by decide +kernel
theorem dX12_changes_59 : decode cX12_changes 59 = .ok (.aload_n 0, 1) := by decide +kernel
theorem dX12_changes_60 : decode cX12_changes 60 = .ok (.getfield 42, 3) := by decide +kernel
theorem dX12_changes_63 : decode cX12_changes 63 = .ok (.invokevirtual 230, 3) := by decide +kernel
theorem dX12_changes_66 : decode cX12_changes 66 = .ok (.aload_n 0, 1) := by decide +kernel
theorem dX12_changes_67 : decode cX12_changes 67 = .ok (.getfield 42, 3) := by decide +kernel
theorem dX12_changes_70 : decode cX12_changes 70 = .ok (.bipush 29, 2) := by decide +kernel
theorem dX12_changes_72 : decode cX12_changes 72 = .ok (.iaload, 1) := by decide +kernel
theorem dX12_changes_73 : decode cX12_changes 73 = .ok (.istore 8, 2) := by decide +kernel
theorem dX12_changes_75 : decode cX12_changes 75 = .ok (.iload_n 2, 1) := by decide +kernel
theorem dX12_changes_76 : decode cX12_changes 76 = .ok (.iload 8, 2) := by decide +kernel
theorem dX12_changes_78 : decode cX12_changes 78 = .ok (.iload 7, 2) := by decide +kernel
theorem dX12_changes_80 : decode cX12_changes 80 = .ok (.if_icmp .eq 7, 3) := by decide +kernel
theorem dX12_changes_83 : decode cX12_changes 83 = .ok (.iconst 1, 1) := by decide +kernel
theorem dX12_changes_84 : decode cX12_changes 84 = .ok (.goto 4, 3) := by decide +kernel
theorem dX12_changes_87 : decode cX12_changes 87 = .ok (.iconst 0, 1) := by decide +kernel
theorem dX12_changes_88 : decode cX12_changes 88 = .ok (.iadd, 1) := by decide +kernel
theorem dX12_changes_89 : decode cX12_changes 89 = .ok (.istore_n 2, 1) := by decide +kernel
theorem dX12_changes_90 : decode cX12_changes 90 = .ok (.iload 8, 2) := by decide +kernel
theorem dX12_changes_92 : decode cX12_changes 92 = .ok (.bipush 7, 2) := by decide +kernel
theorem dX12_changes_94 : decode cX12_changes 94 = .ok (.if_icmp .ne 7, 3) := by decide +kernel
theorem dX12_changes_97 : decode cX12_changes 97 = .ok (.iconst 0, 1) := by decide +kernel
theorem dX12_changes_98 : decode cX12_changes 98 = .ok (.goto 23, 3) := by decide +kernel
theorem dX12_changes_101 : decode cX12_changes 101 = .ok (.iload 6, 2) := by decide +kernel
theorem dX12_changes_103 : decode cX12_changes 103 = .ok (.iconst 1, 1) := by decide +kernel
theorem dX12_changes_104 : decode cX12_changes 104 = .ok (.if_icmp .le 16, 3) := by decide +kernel
theorem dX12_changes_107 : decode cX12_changes 107 = .ok (.iload 8, 2) := by decide +kernel
theorem dX12_changes_109 : decode cX12_changes 109 = .ok (.iload 7, 2) := by decide +kernel
theorem dX12_changes_111 : decode cX12_changes 111 = .ok (.if_icmp .ne 9, 3) := by decide +kernel
theorem dX12_changes_114 : decode cX12_changes 114 = .ok (.iload_n 3, 1) := by decide +kernel
theorem dX12_changes_115 : decode cX12_changes 115 = .ok (.iconst 1, 1) := by decide +kernel
theorem dX12_changes_116 : decode cX12_changes 116 = .ok (.iadd, 1) := by decide +kernel
theorem dX12_changes_117 : decode cX12_changes 117 = .ok (.goto 4, 3) := by decide +kernel
theorem dX12_changes_120 : decode cX12_changes 120 = .ok (.iconst 1, 1) := by decide +kernel
theorem dX12_changes_121 : decode cX12_changes 121 = .ok (.istore_n 3, 1) := by decide +kernel
theorem dX12_changes_122 : decode cX12_changes 122 = .ok (.iload_n 3, 1) := by decide +kernel
theorem dX12_changes_123 : decode cX12_changes 123 = .ok (.iload 4, 2) := by decide +kernel
theorem dX12_changes_125 : decode cX12_changes 125 = .ok (.if_icmp .gt 6, 3) := by decide +kernel
theorem dX12_changes_128 : decode cX12_changes 128 = .ok (.goto 10, 3) := by decide +kernel
theorem dX12_changes_131 : decode cX12_changes 131 = .ok (.iload_n 3, 1) := by decide +kernel
theorem dX12_changes_132 : decode cX12_changes 132 = .ok (.istore 4, 2) := by decide +kernel
theorem dX12_changes_134 : decode cX12_changes 134 = .ok (.iload 8, 2) := by decide +kernel
theorem dX12_changes_136 : decode cX12_changes 136 = .ok (.istore 5, 2) := by decide +kernel
theorem dX12_changes_138 : decode cX12_changes 138 = .ok (.iinc 6 1, 3) := by decide +kernel
theorem dX12_changes_141 : decode cX12_changes 141 = .ok (.goto (-98), 3) := by decide +kernel
theorem dX12_changes_144 : decode cX12_changes 144 = .ok (.aload_n 0, 1) := by decide +kernel
theorem dX12_changes_145 : decode cX12_changes 145 = .ok (.iconst 0, 1) := by decide +kernel
theorem dX12_changes_146 : decode cX12_changes 146 = .ok (.putfield 92, 3) := by decide +kernel
theorem dX12_changes_149 : decode cX12_changes 149 = .ok (.aload_n 0, 1) := by decide +kernel
theorem dX12_changes_150 : decode cX12_changes 150 = .ok (.iload 4, 2) := by decide +kernel
theorem dX12_changes_152 : decode cX12_changes 152 = .ok (.i2l, 1) := by decide +kernel
theorem dX12_changes_153 : decode cX12_changes 153 = .ok (.invokevirtual 236, 3) := by decide +kernel
theorem dX12_changes_156 : decode cX12_changes 156 = .ok (.aload_n 0, 1) := by decide +kernel
theorem dX12_changes_157 : decode cX12_changes 157 = .ok (.iload 5, 2) := by decide +kernel
theorem dX12_changes_159 : decode cX12_changes 159 = .ok (.i2l, 1) := by decide +kernel
theorem dX12_changes_160 : decode cX12_changes 160 = .ok (.invokevirtual 236, 3) := by decide +kernel
theorem dX12_changes_163 : decode cX12_changes 163 = .ok (.iload_n 2, 1) := by decide +kernel
theorem dX12_changes_164 : decode cX12_changes 164 = .ok (.ireturn, 1) := by decide +kernel
theorem dX12_ways_0 : decode cX12_ways 0 = .ok (.aload_n 0, 1) := by decide +kernel
theorem dX12_ways_1 : decode cX12_ways 1 = .ok (.iconst 0, 1) := by decide +kernel
theorem dX12_ways_2 : decode cX12_ways 2 = .ok (.putfield 88, 3) := by decide +kernel
theorem dX12_ways_5 : decode cX12_ways 5 = .ok (.iload_n 1, 1) := by decide +kernel
theorem dX12_ways_6 : decode cX12_ways 6 = .ok (.iconst 1, 1) := by decide +kernel
theorem dX12_ways_7 : decode cX12_ways 7 = .ok (.bipush 99, 2) := by decide +kernel
theorem dX12_ways_9 : decode cX12_ways 9 = .ok (.invokestatic 98, 3) := by decide +kernel
theorem dX12_ways_12 : decode cX12_ways 12 = .ok (.ifCond .ne 5, 3) := by decide +kernel
theorem dX12_ways_15 : decode cX12_ways 15 = .ok (.iconst (-1), 1) := by decide +kernel
theorem dX12_ways_16 : decode cX12_ways 16 = .ok (.ireturn, 1) := by decide +kernel
theorem dX12_ways_17 : decode cX12_ways 17 = .ok (.iconst 0, 1) := by decide +kernel
theorem dX12_ways_18 : decode cX12_ways 18 = .ok (.istore_n 2, 1) := by decide +kernel
theorem dX12_ways_19 : decode cX12_ways 19 = .ok (.iconst 0, 1) := by decide +kernel
theorem dX12_ways_20 : decode cX12_ways 20 = .ok (.istore_n 3, 1) := by decide +kernel
theorem dX12_ways_21 : decode cX12_ways 21 = .ok (.iload_n 3, 1) := by decide +kernel
theorem dX12_ways_22 : decode cX12_ways 22 = .ok (.aload_n 0, 1) := by decide +kernel
theorem dX12_ways_23 : decode cX12_ways 23 = .ok (.getfield 95, 3) := by decide +kernel
theorem dX12_ways_26 : decode cX12_ways 26 = .ok (.if_icmp .ge 16, 3) := by decide +kernel
theorem dX12_ways_29 : decode cX12_ways 29 = .ok (.aload_n 0, 1) := by decide +kernel
theorem dX12_ways_30 : decode cX12_ways 30 = .ok (.getfield 57, 3) := by decide +kernel
theorem dX12_ways_33 : decode cX12_ways 33 = .ok (.iload_n 3, 1) := by decide +kernel
theorem dX12_ways_34 : decode cX12_ways 34 = .ok (.iconst 0, 1) := by decide +kernel
theorem dX12_ways_35 : decode cX12_ways 35 = .ok (.iastore, 1) := by decide +kernel
theorem dX12_ways_36 : decode cX12_ways 36 = .ok (.iinc 3 1, 3) := by decide +kernel
theorem dX12_ways_39 : decode cX12_ways 39 = .ok (.goto (-18), 3) := by decide +kernel
theorem dX12_ways_42 : decode cX12_ways 42 = .ok (.aload_n 0, 1) := by decide +kernel
theorem dX12_ways_43 : decode cX12_ways 43 = .ok (.getfield 9, 3) := by decide +kernel
theorem dX12_ways_46 : decode cX12_ways 46 = .ok (.aload_n 0, 1) := by decide +kernel
theorem dX12_ways_47 : decode cX12_ways 47 = .ok (.getfield 42, 3) := by decide +kernel
theorem dX12_ways_50 : decode cX12_ways 50 = .ok (.iconst 0, 1) := by decide +kernel
theorem dX12_ways_51 : decode cX12_ways 51 = .ok (.invokestatic 219, 3) := by decide +kernel
theorem dX12_ways_54 : decode cX12_ways 54 = .ok (.iconst 0, 1) := by decide +kernel
theorem dX12_ways_55 : decode cX12_ways 55 = .ok (.istore_n 3, 1) := by decide +kernel
theorem dX12_ways_56 : decode cX12_ways 56 = .ok (.iload_n 3, 1) := by decide +kernel
theorem dX12_ways_57 : decode cX12_ways 57 = .ok (.iload_n 1, 1) := by decide +kernel
theorem dX12_ways_58 : decode cX12_ways 58 = .ok (.if_icmp .ge 75, 3) := by decide +kernel
theorem dX12_ways_61 : decode cX12_ways 61 = .ok (.aload_n 0, 1) := by decide +kernel
theorem dX12_ways_62 : decode cX12_ways 62 = .ok (.getfield 42, 3) := by decide +kernel
theorem dX12_ways_65 : decode cX12_ways 65 = .ok (.aload_n 0, 1) := by decide +kernel
theorem dX12_ways_66 : decode cX12_ways 66 = .ok (.getfield 39, 3) := by decide +kernel
theorem dX12_ways_69 : decode cX12_ways 69 = .ok (.iconst 0, 1) := by decide +kernel
theorem dX12_ways_70 : decode cX12_ways 70 = .ok (.invokestatic 219, 3) := by decide +kernel
theorem dX12_ways_73 : decode cX12_ways 73 = .ok (.aload_n 0, 1) := by decide +kernel
theorem dX12_ways_74 : decode cX12_ways 74 = .ok (.aload_n 0, 1) := by decide +kernel
theorem dX12_ways_75 : decode cX12_ways 75 = .ok (.getfield 42, 3) := by decide +kernel
theorem dX12_ways_78 : decode cX12_ways 78 = .ok (.invokevirtual 230, 3) := by decide +kernel
theorem dX12_ways_81 : decode cX12_ways 81 = .ok (.iconst 0, 1) := by decide +kernel
theorem dX12_ways_82 : decode cX12_ways 82 = .ok (.istore 4, 2) := by decide +kernel
theorem dX12_ways_84 : decode cX12_ways 84 = .ok (.iload 4, 2) := by decide +kernel
theorem dX12_ways_86 : decode cX12_ways 86 = .ok (.aload_n 0, 1) := by decide +kernel
theorem dX12_ways_87 : decode cX12_ways 87 = .ok (.getfield 95, 3) := by decide +kernel
theorem dX12_ways_90 : decode cX12_ways 90 = .ok (.if_icmp .ge 37, 3) := by decide +kernel
theorem dX12_ways_93 : decode cX12_ways 93 = .ok (.aload_n 0, 1) := by decide +kernel
theorem dX12_ways_94 : decode cX12_ways 94 = .ok (.getfield 57, 3) := by decide +kernel
theorem dX12_ways_97 : decode cX12_ways 97 = .ok (.iload 4, 2) := by decide +kernel
theorem dX12_ways_99 : decode cX12_ways 99 = .ok (.dup2, 1) := by decide +kernel
theorem dX12_ways_100 : decode cX12_ways 100 = .ok (.iaload, 1) := by decide +kernel
theorem dX12_ways_101 : decode cX12_ways 101 = .ok (.aload_n 0, 1) := by decide +kernel
theorem dX12_ways_102 : decode cX12_ways 102 = .ok (.getfield 42, 3) := by decide +kernel
theorem dX12_ways_105 : decode cX12_ways 105 = .ok (.iload 4, 2) := by decide +kernel
theorem dX12_ways_107 : decode cX12_ways 107 = .ok (.iaload, 1) := by decide +kernel
theorem dX12_ways_108 : decode cX12_ways 108 = .ok (.aload_n 0, 1) := by decide +kernel
theorem dX12_ways_109 : decode cX12_ways 109 = .ok (.getfield 39, 3) := by decide +kernel
theorem dX12_ways_112 : decode cX12_ways 112 = .ok (.iload 4, 2) := by decide +kernel
theorem dX12_ways_114 : decode cX12_ways 114 = .ok (.iaload, 1) := by decide +kernel
theorem dX12_ways_115 : decode cX12_ways 115 = .ok (.isub, 1) := by decide +kernel
theorem dX12_ways_116 : decode cX12_ways 116 = .ok (.invokestatic 282, 3) := by decide +kernel
theorem dX12_ways_119 : decode cX12_ways 119 = .ok (.iadd, 1) := by decide +kernel
theorem dX12_ways_120 : decode cX12_ways 120 = .ok (.iastore, 1) := by decide +kernel
theorem dX12_ways_121 : decode cX12_ways 121 = .ok (.iinc 4 1, 3) := by decide +kernel
theorem dX12_ways_124 : decode cX12_ways 124 = .ok (.goto (-40), 3) := by decide +kernel
theorem dX12_ways_127 : decode cX12_ways 127 = .ok (.iinc 3 1, 3) := by decide +kernel
theorem dX12_ways_130 : decode cX12_ways 130 = .ok (.goto (-74), 3) := by decide +kernel
theorem dX12_ways_133 : decode cX12_ways 133 = .ok (.aload_n 0, 1) := by decide +kernel
theorem dX12_ways_134 : decode cX12_ways 134 = .ok (.iconst 0, 1) := by decide +kernel
theorem dX12_ways_135 : decode cX12_ways 135 = .ok (.putfield 92, 3) := by decide +kernel
theorem dX12_ways_138 : decode cX12_ways 138 = .ok (.iconst 0, 1) := by decide +kernel
theorem dX12_ways_139 : decode cX12_ways 139 = .ok (.istore_n 3, 1) := by decide +kernel
theorem dX12_ways_140 : decode cX12_ways 140 = .ok (.iload_n 3, 1) := by decide +kernel
theorem dX12_ways_141 : decode cX12_ways 141 = .ok (.aload_n 0, 1) := by decide +kernel
theorem dX12_ways_142 : decode cX12_ways 142 = .ok (.getfield 95, 3) := by decide +kernel
theorem dX12_ways_145 : decode cX12_ways 145 = .ok (.if_icmp .ge 29, 3) := by decide +kernel
theorem dX12_ways_148 : decode cX12_ways 148 = .ok (.iload_n 2, 1) := by decide +kernel
theorem dX12_ways_149 : decode cX12_ways 149 = .ok (.aload_n 0, 1) := by decide +kernel
theorem dX12_ways_150 : decode cX12_ways 150 = .ok (.getfield 57, 3) := by decide +kernel
theorem dX12_ways_153 : decode cX12_ways 153 = .ok (.iload_n 3, 1) := by decide +kernel
theorem dX12_ways_154 : decode cX12_ways 154 = .ok (.iaload, 1) := by decide +kernel
theorem dX12_ways_155 : decode cX12_ways 155 = .ok (.iadd, 1) := by decide +kernel
theorem dX12_ways_156 : decode cX12_ways 156 = .ok (.istore_n 2, 1) := by decide +kernel
theorem dX12_ways_157 : decode cX12_ways 157 = .ok (.aload_n 0, 1) := by decide +kernel
theorem dX12_ways_158 : decode cX12_ways 158 = .ok (.aload_n 0, 1) := by decide +kernel
theorem dX12_ways_159 : decode cX12_ways 159 = .ok (.getfield 57, 3) := by decide +kernel
theorem dX12_ways_162 : decode cX12_ways 162 = .ok (.iload_n 3, 1) := by decide +kernel
theorem dX12_ways_163 : decode cX12_ways 163 = .ok (.iaload, 1) := by decide +kernel
theorem dX12_ways_164 : decode cX12_ways 164 = .ok (.i2l, 1) := by decide +kernel
theorem dX12_ways_165 : decode cX12_ways 165 = .ok (.invokevirtual 236, 3) := by decide +kernel
theorem dX12_ways_168 : decode cX12_ways 168 = .ok (.iinc 3 1, 3) := by decide +kernel
theorem dX12_ways_171 : decode cX12_ways 171 = .ok (.goto (-31), 3) := by decide +kernel
theorem dX12_ways_174 : decode cX12_ways 174 = .ok (.iload_n 2, 1) := by decide +kernel
theorem dX12_ways_175 : decode cX12_ways 175 = .ok (.ireturn, 1) := by decide +kernel
theorem dX12_ownedBy_0 : decode cX12_ownedBy 0 = .ok (.aload_n 0, 1) := by decide +kernel
theorem dX12_ownedBy_1 : decode cX12_ownedBy 1 = .ok (.getfield 9, 3) := by decide +kernel
theorem dX12_ownedBy_4 : decode cX12_ownedBy 4 = .ok (.aload_n 0, 1) := by decide +kernel
theorem dX12_ownedBy_5 : decode cX12_ownedBy 5 = .ok (.getfield 42, 3) := by decide +kernel
theorem dX12_ownedBy_8 : decode cX12_ownedBy 8 = .ok (.iconst 0, 1) := by decide +kernel
theorem dX12_ownedBy_9 : decode cX12_ownedBy 9 = .ok (.invokestatic 219, 3) := by decide +kernel
theorem dX12_ownedBy_12 : decode cX12_ownedBy 12 = .ok (.aload_n 0, 1) := by decide +kernel
theorem dX12_ownedBy_13 : decode cX12_ownedBy 13 = .ok (.getfield 42, 3) := by decide +kernel
theorem dX12_ownedBy_16 : decode cX12_ownedBy 16 = .ok (.bipush 28, 2) := by decide +kernel
theorem dX12_ownedBy_18 : decode cX12_ownedBy 18 = .ok (.iload_n 1, 1) := by decide +kernel
theorem dX12_ownedBy_19 : decode cX12_ownedBy 19 = .ok (.iastore, 1) := by decide +kernel
theorem dX12_ownedBy_20 : decode cX12_ownedBy 20 = .ok (.iconst 0, 1) := by decide +kernel
theorem dX12_ownedBy_21 : decode cX12_ownedBy 21 = .ok (.istore 4, 2) := by decide +kernel
theorem dX12_ownedBy_23 : decode cX12_ownedBy 23 = .ok (.iconst 0, 1) := by decide +kernel
theorem dX12_ownedBy_24 : decode cX12_ownedBy 24 = .ok (.istore 5, 2) := by decide +kernel
theorem dX12_ownedBy_26 : decode cX12_ownedBy 26 = .ok (.iload 5, 2) := by decide +kernel
theorem dX12_ownedBy_28 : decode cX12_ownedBy 28 = .ok (.iload_n 3, 1) := by decide +kernel
theorem dX12_ownedBy_29 : decode cX12_ownedBy 29 = .ok (.if_icmp .ge 38, 3) := by decide +kernel
theorem dX12_ownedBy_32 : decode cX12_ownedBy 32 = .ok (.aload_n 0, 1) := by decide +kernel
theorem dX12_ownedBy_33 : decode cX12_ownedBy 33 = .ok (.aload_n 0, 1) := by decide +kernel
theorem dX12_ownedBy_34 : decode cX12_ownedBy 34 = .ok (.getfield 42, 3) := by decide +kernel
theorem dX12_ownedBy_37 : decode cX12_ownedBy 37 = .ok (.invokevirtual 230, 3) := by decide +kernel
theorem dX12_ownedBy_40 : decode cX12_ownedBy 40 = .ok (.iload 4, 2) := by decide +kernel
theorem dX12_ownedBy_42 : decode cX12_ownedBy 42 = .ok (.aload_n 0, 1) := by decide +kernel
theorem dX12_ownedBy_43 : decode cX12_ownedBy 43 = .ok (.getfield 42, 3) := by decide +kernel
theorem dX12_ownedBy_46 : decode cX12_ownedBy 46 = .ok (.bipush 29, 2) := by decide +kernel
theorem dX12_ownedBy_48 : decode cX12_ownedBy 48 = .ok (.iaload, 1) := by decide +kernel
theorem dX12_ownedBy_49 : decode cX12_ownedBy 49 = .ok (.iload_n 2, 1) := by decide +kernel
theorem dX12_ownedBy_50 : decode cX12_ownedBy 50 = .ok (.if_icmp .ne 7, 3) := by decide +kernel
theorem dX12_ownedBy_53 : decode cX12_ownedBy 53 = .ok (.iconst 1, 1) := by decide +kernel
theorem dX12_ownedBy_54 : decode cX12_ownedBy 54 = .ok (.goto 4, 3) := by decide +kernel
theorem dX12_ownedBy_57 : decode cX12_ownedBy 57 = .ok (.iconst 0, 1) := by decide +kernel
theorem dX12_ownedBy_58 : decode cX12_ownedBy 58 = .ok (.iadd, 1) := by decide +kernel
theorem dX12_ownedBy_59 : decode cX12_ownedBy 59 = .ok (.istore 4, 2) := by decide +kernel
theorem dX12_ownedBy_61 : decode cX12_ownedBy 61 = .ok (.iinc 5 1, 3) := by decide +kernel
theorem dX12_ownedBy_64 : decode cX12_ownedBy 64 = .ok (.goto (-38), 3) := by decide +kernel
theorem dX12_ownedBy_67 : decode cX12_ownedBy 67 = .ok (.iload 4, 2) := by decide +kernel
theorem dX12_ownedBy_69 : decode cX12_ownedBy 69 = .ok (.ireturn, 1) := by decide +kernel
theorem dX12_peaks_0 : decode cX12_peaks 0 = .ok (.aload_n 0, 1) := by decide +kernel
theorem dX12_peaks_1 : decode cX12_peaks 1 = .ok (.iconst 0, 1) := by decide +kernel
theorem dX12_peaks_2 : decode cX12_peaks 2 = .ok (.putfield 88, 3) := by decide +kernel
theorem dX12_peaks_5 : decode cX12_peaks 5 = .ok (.aload_n 0, 1) := by decide +kernel
theorem dX12_peaks_6 : decode cX12_peaks 6 = .ok (.iload_n 1, 1) := by decide +kernel
theorem dX12_peaks_7 : decode cX12_peaks 7 = .ok (.invokevirtual 205, 3) := by decide +kernel
theorem dX12_peaks_10 : decode cX12_peaks 10 = .ok (.ifCond .eq 13, 3) := by decide +kernel
theorem dX12_peaks_13 : decode cX12_peaks 13 = .ok (.iload_n 2, 1) := by decide +kernel
theorem dX12_peaks_14 : decode cX12_peaks 14 = .ok (.iconst 1, 1) := by decide +kernel
theorem dX12_peaks_15 : decode cX12_peaks 15 = .ok (.bipush 60, 2) := by decide +kernel
theorem dX12_peaks_17 : decode cX12_peaks 17 = .ok (.invokestatic 98, 3) := by decide +kernel
theorem dX12_peaks_20 : decode cX12_peaks 20 = .ok (.ifCond .ne 5, 3) := by decide +kernel
theorem dX12_peaks_23 : decode cX12_peaks 23 = .ok (.iconst (-1), 1) := by decide +kernel
theorem dX12_peaks_24 : decode cX12_peaks 24 = .ok (.ireturn, 1) := by decide +kernel
theorem dX12_peaks_25 : decode cX12_peaks 25 = .ok (.iconst 2, 1) := by decide +kernel
theorem dX12_peaks_26 : decode cX12_peaks 26 = .ok (.istore_n 3, 1) := by decide +kernel
theorem dX12_peaks_27 : decode cX12_peaks 27 = .ok (.iconst 0, 1) := by decide +kernel
theorem dX12_peaks_28 : decode cX12_peaks 28 = .ok (.istore 4, 2) := by decide +kernel
theorem dX12_peaks_30 : decode cX12_peaks 30 = .ok (.iload 4, 2) := by decide +kernel
theorem dX12_peaks_32 : decode cX12_peaks 32 = .ok (.aload_n 0, 1) := by decide +kernel
theorem dX12_peaks_33 : decode cX12_peaks 33 = .ok (.getfield 95, 3) := by decide +kernel
theorem dX12_peaks_36 : decode cX12_peaks 36 = .ok (.if_icmp .ge 21, 3) := by decide +kernel
theorem dX12_peaks_39 : decode cX12_peaks 39 = .ok (.iload_n 3, 1) := by decide +kernel
theorem dX12_peaks_40 : decode cX12_peaks 40 = .ok (.aload_n 0, 1) := by decide +kernel
theorem dX12_peaks_41 : decode cX12_peaks 41 = .ok (.getfield 9, 3) := by decide +kernel
theorem dX12_peaks_44 : decode cX12_peaks 44 = .ok (.iload 4, 2) := by decide +kernel
theorem dX12_peaks_46 : decode cX12_peaks 46 = .ok (.iaload, 1) := by decide +kernel
theorem dX12_peaks_47 : decode cX12_peaks 47 = .ok (.invokestatic 195, 3) := by decide +kernel
theorem dX12_peaks_50 : decode cX12_peaks 50 = .ok (.istore_n 3, 1) := by decide +kernel
theorem dX12_peaks_51 : decode cX12_peaks 51 = .ok (.iinc 4 1, 3) := by decide +kernel
theorem dX12_peaks_54 : decode cX12_peaks 54 = .ok (.goto (-24), 3) := by decide +kernel
theorem dX12_peaks_57 : decode cX12_peaks 57 = .ok (.iconst (-1), 1) := by decide +kernel
theorem dX12_peaks_58 : decode cX12_peaks 58 = .ok (.istore 4, 2) := by decide +kernel
theorem dX12_peaks_60 : decode cX12_peaks 60 = .ok (.iconst (-1), 1) := by decide +kernel
theorem dX12_peaks_61 : decode cX12_peaks 61 = .ok (.istore 5, 2) := by decide +kernel
theorem dX12_peaks_63 : decode cX12_peaks 63 = .ok (.iload_n 3, 1) := by decide +kernel
theorem dX12_peaks_64 : decode cX12_peaks 64 = .ok (.istore 6, 2) := by decide +kernel
theorem dX12_peaks_66 : decode cX12_peaks 66 = .ok (.iload 6, 2) := by decide +kernel
theorem dX12_peaks_68 : decode cX12_peaks 68 = .ok (.bipush 9, 2) := by decide +kernel
theorem dX12_peaks_70 : decode cX12_peaks 70 = .ok (.if_icmp .gt 39, 3) := by decide +kernel
theorem dX12_peaks_73 : decode cX12_peaks 73 = .ok (.aload_n 0, 1) := by decide +kernel
theorem dX12_peaks_74 : decode cX12_peaks 74 = .ok (.iload 6, 2) := by decide +kernel
theorem dX12_peaks_76 : decode cX12_peaks 76 = .ok (.iload_n 1, 1) := by decide +kernel
theorem dX12_peaks_77 : decode cX12_peaks 77 = .ok (.iload_n 2, 1) := by decide +kernel
theorem dX12_peaks_78 : decode cX12_peaks 78 = .ok (.invokevirtual 285, 3) := by decide +kernel
theorem dX12_peaks_81 : decode cX12_peaks 81 = .ok (.iload 5, 2) := by decide +kernel
theorem dX12_peaks_83 : decode cX12_peaks 83 = .ok (.if_icmp .gt 6, 3) := by decide +kernel
theorem dX12_peaks_86 : decode cX12_peaks 86 = .ok (.goto 17, 3) := by decide +kernel
theorem dX12_peaks_89 : decode cX12_peaks 89 = .ok (.iload 6, 2) := by decide +kernel
theorem dX12_peaks_91 : decode cX12_peaks 91 = .ok (.istore 4, 2) := by decide +kernel
theorem dX12_peaks_93 : decode cX12_peaks 93 = .ok (.aload_n 0, 1) := by decide +kernel
theorem dX12_peaks_94 : decode cX12_peaks 94 = .ok (.iload 6, 2) := by decide +kernel
theorem dX12_peaks_96 : decode cX12_peaks 96 = .ok (.iload_n 1, 1) := by decide +kernel
theorem dX12_peaks_97 : decode cX12_peaks 97 = .ok (.iload_n 2, 1) := by decide +kernel
theorem dX12_peaks_98 : decode cX12_peaks 98 = .ok (.invokevirtual 285, 3) := by decide +kernel
theorem dX12_peaks_101 : decode cX12_peaks 101 = .ok (.istore 5, 2) := by decide +kernel
theorem dX12_peaks_103 : decode cX12_peaks 103 = .ok (.iinc 6 1, 3) := by decide +kernel
theorem dX12_peaks_106 : decode cX12_peaks 106 = .ok (.goto (-40), 3) := by decide +kernel
theorem dX12_peaks_109 : decode cX12_peaks 109 = .ok (.aload_n 0, 1) := by decide +kernel
theorem dX12_peaks_110 : decode cX12_peaks 110 = .ok (.iconst 0, 1) := by decide +kernel
theorem dX12_peaks_111 : decode cX12_peaks 111 = .ok (.putfield 92, 3) := by decide +kernel
theorem dX12_peaks_114 : decode cX12_peaks 114 = .ok (.aload_n 0, 1) := by decide +kernel
theorem dX12_peaks_115 : decode cX12_peaks 115 = .ok (.iload 5, 2) := by decide +kernel
theorem dX12_peaks_117 : decode cX12_peaks 117 = .ok (.i2l, 1) := by decide +kernel
theorem dX12_peaks_118 : decode cX12_peaks 118 = .ok (.invokevirtual 236, 3) := by decide +kernel
theorem dX12_peaks_121 : decode cX12_peaks 121 = .ok (.aload_n 0, 1) := by decide +kernel
theorem dX12_peaks_122 : decode cX12_peaks 122 = .ok (.aload_n 0, 1) := by decide +kernel
theorem dX12_peaks_123 : decode cX12_peaks 123 = .ok (.aload_n 0, 1) := by decide +kernel
theorem dX12_peaks_124 : decode cX12_peaks 124 = .ok (.getfield 9, 3) := by decide +kernel
theorem dX12_peaks_127 : decode cX12_peaks 127 = .ok (.bipush 28, 2) := by decide +kernel
theorem dX12_peaks_129 : decode cX12_peaks 129 = .ok (.iaload, 1) := by decide +kernel
theorem dX12_peaks_130 : decode cX12_peaks 130 = .ok (.iload_n 1, 1) := by decide +kernel
theorem dX12_peaks_131 : decode cX12_peaks 131 = .ok (.iload_n 2, 1) := by decide +kernel
theorem dX12_peaks_132 : decode cX12_peaks 132 = .ok (.invokevirtual 285, 3) := by decide +kernel
theorem dX12_peaks_135 : decode cX12_peaks 135 = .ok (.i2l, 1) := by decide +kernel
theorem dX12_peaks_136 : decode cX12_peaks 136 = .ok (.invokevirtual 236, 3) := by decide +kernel
theorem dX12_peaks_139 : decode cX12_peaks 139 = .ok (.iload 4, 2) := by decide +kernel
theorem dX12_peaks_141 : decode cX12_peaks 141 = .ok (.ireturn, 1) := by decide +kernel
theorem dX12_isSoon_0 : decode cX12_isSoon 0 = .ok (.iload_n 0, 1) := by decide +kernel
theorem dX12_isSoon_1 : decode cX12_isSoon 1 = .ok (.iconst 0, 1) := by decide +kernel
theorem dX12_isSoon_2 : decode cX12_isSoon 2 = .ok (.bipush 60, 2) := by decide +kernel
theorem dX12_isSoon_4 : decode cX12_isSoon 4 = .ok (.invokestatic 98, 3) := by decide +kernel
theorem dX12_isSoon_7 : decode cX12_isSoon 7 = .ok (.ireturn, 1) := by decide +kernel
theorem dX12_bides_0 : decode cX12_bides 0 = .ok (.aload_n 0, 1) := by decide +kernel
theorem dX12_bides_1 : decode cX12_bides 1 = .ok (.iconst 0, 1) := by decide +kernel
theorem dX12_bides_2 : decode cX12_bides 2 = .ok (.putfield 88, 3) := by decide +kernel
theorem dX12_bides_5 : decode cX12_bides 5 = .ok (.aload_n 0, 1) := by decide +kernel
theorem dX12_bides_6 : decode cX12_bides 6 = .ok (.iload_n 1, 1) := by decide +kernel
theorem dX12_bides_7 : decode cX12_bides 7 = .ok (.invokevirtual 205, 3) := by decide +kernel
theorem dX12_bides_10 : decode cX12_bides 10 = .ok (.ifCond .eq 10, 3) := by decide +kernel
theorem dX12_bides_13 : decode cX12_bides 13 = .ok (.iload_n 2, 1) := by decide +kernel
theorem dX12_bides_14 : decode cX12_bides 14 = .ok (.invokestatic 289, 3) := by decide +kernel
theorem dX12_bides_17 : decode cX12_bides 17 = .ok (.ifCond .ne 5, 3) := by decide +kernel
theorem dX12_bides_20 : decode cX12_bides 20 = .ok (.iconst (-1), 1) := by decide +kernel
theorem dX12_bides_21 : decode cX12_bides 21 = .ok (.ireturn, 1) := by decide +kernel
theorem dX12_bides_22 : decode cX12_bides 22 = .ok (.bipush (-2), 2) := by decide +kernel
theorem dX12_bides_24 : decode cX12_bides 24 = .ok (.istore_n 3, 1) := by decide +kernel
theorem dX12_bides_25 : decode cX12_bides 25 = .ok (.iconst 0, 1) := by decide +kernel
theorem dX12_bides_26 : decode cX12_bides 26 = .ok (.istore 4, 2) := by decide +kernel
theorem dX12_bides_28 : decode cX12_bides 28 = .ok (.iconst 0, 1) := by decide +kernel
theorem dX12_bides_29 : decode cX12_bides 29 = .ok (.istore 5, 2) := by decide +kernel
theorem dX12_bides_31 : decode cX12_bides 31 = .ok (.iload 5, 2) := by decide +kernel
theorem dX12_bides_33 : decode cX12_bides 33 = .ok (.bipush 30, 2) := by decide +kernel
theorem dX12_bides_35 : decode cX12_bides 35 = .ok (.if_icmp .gt 74, 3) := by decide +kernel
theorem dX12_bides_38 : decode cX12_bides 38 = .ok (.aload_n 0, 1) := by decide +kernel
theorem dX12_bides_39 : decode cX12_bides 39 = .ok (.getfield 9, 3) := by decide +kernel
theorem dX12_bides_42 : decode cX12_bides 42 = .ok (.aload_n 0, 1) := by decide +kernel
theorem dX12_bides_43 : decode cX12_bides 43 = .ok (.getfield 42, 3) := by decide +kernel
theorem dX12_bides_46 : decode cX12_bides 46 = .ok (.iconst 0, 1) := by decide +kernel
theorem dX12_bides_47 : decode cX12_bides 47 = .ok (.invokestatic 219, 3) := by decide +kernel
theorem dX12_bides_50 : decode cX12_bides 50 = .ok (.aload_n 0, 1) := by decide +kernel
theorem dX12_bides_51 : decode cX12_bides 51 = .ok (.getfield 42, 3) := by decide +kernel
theorem dX12_bides_54 : decode cX12_bides 54 = .ok (.bipush 14, 2) := by decide +kernel
theorem dX12_bides_56 : decode cX12_bides 56 = .ok (.iload_n 1, 1) := by decide +kernel
theorem dX12_bides_57 : decode cX12_bides 57 = .ok (.iadd, 1) := by decide +kernel
theorem dX12_bides_58 : decode cX12_bides 58 = .ok (.dup2, 1) := by decide +kernel
theorem dX12_bides_59 : decode cX12_bides 59 = .ok (.iaload, 1) := by decide +kernel
theorem dX12_bides_60 : decode cX12_bides 60 = .ok (.iload 5, 2) := by decide +kernel
theorem dX12_bides_62 : decode cX12_bides 62 = .ok (.iadd, 1) := by decide +kernel
theorem dX12_bides_63 : decode cX12_bides 63 = .ok (.iastore, 1) := by decide +kernel
theorem dX12_bides_64 : decode cX12_bides 64 = .ok (.aload_n 0, 1) := by decide +kernel
theorem dX12_bides_65 : decode cX12_bides 65 = .ok (.aload_n 0, 1) := by decide +kernel
theorem dX12_bides_66 : decode cX12_bides 66 = .ok (.getfield 42, 3) := by decide +kernel
theorem dX12_bides_69 : decode cX12_bides 69 = .ok (.iload_n 2, 1) := by decide +kernel
theorem dX12_bides_70 : decode cX12_bides 70 = .ok (.invokevirtual 233, 3) := by decide +kernel
theorem dX12_bides_73 : decode cX12_bides 73 = .ok (.aload_n 0, 1) := by decide +kernel
theorem dX12_bides_74 : decode cX12_bides 74 = .ok (.getfield 42, 3) := by decide +kernel
theorem dX12_bides_77 : decode cX12_bides 77 = .ok (.bipush 29, 2) := by decide +kernel
theorem dX12_bides_79 : decode cX12_bides 79 = .ok (.iaload, 1) := by decide +kernel
theorem dX12_bides_80 : decode cX12_bides 80 = .ok (.iload_n 1, 1) := by decide +kernel
theorem dX12_bides_81 : decode cX12_bides 81 = .ok (.if_icmp .eq 6, 3) := by decide +kernel
theorem dX12_bides_84 : decode cX12_bides 84 = .ok (.goto 19, 3) := by decide +kernel
theorem dX12_bides_87 : decode cX12_bides 87 = .ok (.iload_n 3, 1) := by decide +kernel
theorem dX12_bides_88 : decode cX12_bides 88 = .ok (.bipush (-2), 2) := by decide +kernel
theorem dX12_bides_90 : decode cX12_bides 90 = .ok (.if_icmp .ne 8, 3) := by decide +kernel
theorem dX12_bides_93 : decode cX12_bides 93 = .ok (.iload 5, 2) := by decide +kernel
theorem dX12_bides_95 : decode cX12_bides 95 = .ok (.goto 4, 3) := by decide +kernel
theorem dX12_bides_98 : decode cX12_bides 98 = .ok (.iload_n 3, 1) := by decide +kernel
theorem dX12_bides_99 : decode cX12_bides 99 = .ok (.istore_n 3, 1) := by decide +kernel
theorem dX12_bides_100 : decode cX12_bides 100 = .ok (.iinc 4 1, 3) := by decide +kernel
theorem dX12_bides_103 : decode cX12_bides 103 = .ok (.iinc 5 1, 3) := by decide +kernel
theorem dX12_bides_106 : decode cX12_bides 106 = .ok (.goto (-75), 3) := by decide +kernel
theorem dX12_bides_109 : decode cX12_bides 109 = .ok (.iload_n 3, 1) := by decide +kernel
theorem dX12_bides_110 : decode cX12_bides 110 = .ok (.bipush (-2), 2) := by decide +kernel
theorem dX12_bides_112 : decode cX12_bides 112 = .ok (.if_icmp .ne 6, 3) := by decide +kernel
theorem dX12_bides_115 : decode cX12_bides 115 = .ok (.bipush (-2), 2) := by decide +kernel
theorem dX12_bides_117 : decode cX12_bides 117 = .ok (.ireturn, 1) := by decide +kernel
theorem dX12_bides_118 : decode cX12_bides 118 = .ok (.aload_n 0, 1) := by decide +kernel
theorem dX12_bides_119 : decode cX12_bides 119 = .ok (.iconst 0, 1) := by decide +kernel
theorem dX12_bides_120 : decode cX12_bides 120 = .ok (.putfield 92, 3) := by decide +kernel
theorem dX12_bides_123 : decode cX12_bides 123 = .ok (.aload_n 0, 1) := by decide +kernel
theorem dX12_bides_124 : decode cX12_bides 124 = .ok (.iload 4, 2) := by decide +kernel
theorem dX12_bides_126 : decode cX12_bides 126 = .ok (.i2l, 1) := by decide +kernel
theorem dX12_bides_127 : decode cX12_bides 127 = .ok (.invokevirtual 236, 3) := by decide +kernel
theorem dX12_bides_130 : decode cX12_bides 130 = .ok (.iload_n 3, 1) := by decide +kernel
theorem dX12_bides_131 : decode cX12_bides 131 = .ok (.ireturn, 1) := by decide +kernel
theorem dX12_fewest_0 : decode cX12_fewest 0 = .ok (.iload_n 1, 1) := by decide +kernel
theorem dX12_fewest_1 : decode cX12_fewest 1 = .ok (.iconst (-1), 1) := by decide +kernel
theorem dX12_fewest_2 : decode cX12_fewest 2 = .ok (.if_icmp .eq 14, 3) := by decide +kernel
theorem dX12_fewest_5 : decode cX12_fewest 5 = .ok (.iload_n 2, 1) := by decide +kernel
theorem dX12_fewest_6 : decode cX12_fewest 6 = .ok (.invokestatic 244, 3) := by decide +kernel
theorem dX12_fewest_9 : decode cX12_fewest 9 = .ok (.iload_n 1, 1) := by decide +kernel
theorem dX12_fewest_10 : decode cX12_fewest 10 = .ok (.invokestatic 244, 3) := by decide +kernel
theorem dX12_fewest_13 : decode cX12_fewest 13 = .ok (.if_icmp .ge 7, 3) := by decide +kernel
theorem dX12_fewest_16 : decode cX12_fewest 16 = .ok (.iload_n 2, 1) := by decide +kernel
theorem dX12_fewest_17 : decode cX12_fewest 17 = .ok (.goto 4, 3) := by decide +kernel
theorem dX12_fewest_20 : decode cX12_fewest 20 = .ok (.iload_n 1, 1) := by decide +kernel
theorem dX12_fewest_21 : decode cX12_fewest 21 = .ok (.ireturn, 1) := by decide +kernel
theorem dX12_tellFewest_0 : decode cX12_tellFewest 0 = .ok (.iload_n 1, 1) := by decide +kernel
theorem dX12_tellFewest_1 : decode cX12_tellFewest 1 = .ok (.iconst (-1), 1) := by decide +kernel
theorem dX12_tellFewest_2 : decode cX12_tellFewest 2 = .ok (.if_icmp .ne 6, 3) := by decide +kernel
theorem dX12_tellFewest_5 : decode cX12_tellFewest 5 = .ok (.bipush (-2), 2) := by decide +kernel
theorem dX12_tellFewest_7 : decode cX12_tellFewest 7 = .ok (.ireturn, 1) := by decide +kernel
theorem dX12_tellFewest_8 : decode cX12_tellFewest 8 = .ok (.aload_n 0, 1) := by decide +kernel
theorem dX12_tellFewest_9 : decode cX12_tellFewest 9 = .ok (.iconst 0, 1) := by decide +kernel
theorem dX12_tellFewest_10 : decode cX12_tellFewest 10 = .ok (.putfield 92, 3) := by decide +kernel
theorem dX12_tellFewest_13 : decode cX12_tellFewest 13 = .ok (.aload_n 0, 1) := by decide +kernel
theorem dX12_tellFewest_14 : decode cX12_tellFewest 14 = .ok (.iload_n 1, 1) := by decide +kernel
theorem dX12_tellFewest_15 : decode cX12_tellFewest 15 = .ok (.i2l, 1) := by decide +kernel
theorem dX12_tellFewest_16 : decode cX12_tellFewest 16 = .ok (.invokevirtual 236, 3) := by decide +kernel
theorem dX12_tellFewest_19 : decode cX12_tellFewest 19 = .ok (.iload_n 1, 1) := by decide +kernel
theorem dX12_tellFewest_20 : decode cX12_tellFewest 20 = .ok (.invokestatic 244, 3) := by decide +kernel
theorem dX12_tellFewest_23 : decode cX12_tellFewest 23 = .ok (.ireturn, 1) := by decide +kernel
theorem dX12_rivals_0 : decode cX12_rivals 0 = .ok (.aload_n 0, 1) := by decide +kernel
theorem dX12_rivals_1 : decode cX12_rivals 1 = .ok (.iconst 0, 1) := by decide +kernel
theorem dX12_rivals_2 : decode cX12_rivals 2 = .ok (.putfield 88, 3) := by decide +kernel
theorem dX12_rivals_5 : decode cX12_rivals 5 = .ok (.aload_n 0, 1) := by decide +kernel
theorem dX12_rivals_6 : decode cX12_rivals 6 = .ok (.iload_n 1, 1) := by decide +kernel
theorem dX12_rivals_7 : decode cX12_rivals 7 = .ok (.invokevirtual 205, 3) := by decide +kernel
theorem dX12_rivals_10 : decode cX12_rivals 10 = .ok (.ifCond .eq 10, 3) := by decide +kernel
theorem dX12_rivals_13 : decode cX12_rivals 13 = .ok (.iload_n 2, 1) := by decide +kernel
theorem dX12_rivals_14 : decode cX12_rivals 14 = .ok (.invokestatic 289, 3) := by decide +kernel
theorem dX12_rivals_17 : decode cX12_rivals 17 = .ok (.ifCond .ne 5, 3) := by decide +kernel
theorem dX12_rivals_20 : decode cX12_rivals 20 = .ok (.iconst (-1), 1) := by decide +kernel
theorem dX12_rivals_21 : decode cX12_rivals 21 = .ok (.ireturn, 1) := by decide +kernel
theorem dX12_rivals_22 : decode cX12_rivals 22 = .ok (.aload_n 0, 1) := by decide +kernel
theorem dX12_rivals_23 : decode cX12_rivals 23 = .ok (.aload_n 0, 1) := by decide +kernel
theorem dX12_rivals_24 : decode cX12_rivals 24 = .ok (.getfield 9, 3) := by decide +kernel
theorem dX12_rivals_27 : decode cX12_rivals 27 = .ok (.invokevirtual 240, 3) := by decide +kernel
theorem dX12_rivals_30 : decode cX12_rivals 30 = .ok (.iconst 1, 1) := by decide +kernel
theorem dX12_rivals_31 : decode cX12_rivals 31 = .ok (.iload_n 1, 1) := by decide +kernel
theorem dX12_rivals_32 : decode cX12_rivals 32 = .ok (.ishl, 1) := by decide +kernel
theorem dX12_rivals_33 : decode cX12_rivals 33 = .ok (.iconst (-1), 1) := by decide +kernel
theorem dX12_rivals_34 : decode cX12_rivals 34 = .ok (.ixor, 1) := by decide +kernel
theorem dX12_rivals_35 : decode cX12_rivals 35 = .ok (.iand, 1) := by decide +kernel
theorem dX12_rivals_36 : decode cX12_rivals 36 = .ok (.istore_n 3, 1) := by decide +kernel
theorem dX12_rivals_37 : decode cX12_rivals 37 = .ok (.iconst (-1), 1) := by decide +kernel
theorem dX12_rivals_38 : decode cX12_rivals 38 = .ok (.istore 4, 2) := by decide +kernel
theorem dX12_rivals_40 : decode cX12_rivals 40 = .ok (.iconst 0, 1) := by decide +kernel
theorem dX12_rivals_41 : decode cX12_rivals 41 = .ok (.istore 5, 2) := by decide +kernel
theorem dX12_rivals_43 : decode cX12_rivals 43 = .ok (.iload 5, 2) := by decide +kernel
theorem dX12_rivals_45 : decode cX12_rivals 45 = .ok (.iload_n 3, 1) := by decide +kernel
theorem dX12_rivals_46 : decode cX12_rivals 46 = .ok (.if_icmp .gt 106, 3) := by decide +kernel
theorem dX12_rivals_49 : decode cX12_rivals 49 = .ok (.iload 5, 2) := by decide +kernel
theorem dX12_rivals_51 : decode cX12_rivals 51 = .ok (.iload_n 3, 1) := by decide +kernel
theorem dX12_rivals_52 : decode cX12_rivals 52 = .ok (.iconst (-1), 1) := by decide +kernel
theorem dX12_rivals_53 : decode cX12_rivals 53 = .ok (.ixor, 1) := by decide +kernel
theorem dX12_rivals_54 : decode cX12_rivals 54 = .ok (.iand, 1) := by decide +kernel
theorem dX12_rivals_55 : decode cX12_rivals 55 = .ok (.ifCond .eq 6, 3) := by decide +kernel
theorem dX12_rivals_58 : decode cX12_rivals 58 = .ok (.goto 88, 3) := by decide +kernel
theorem dX12_rivals_61 : decode cX12_rivals 61 = .ok (.aload_n 0, 1) := by decide +kernel
theorem dX12_rivals_62 : decode cX12_rivals 62 = .ok (.getfield 9, 3) := by decide +kernel
theorem dX12_rivals_65 : decode cX12_rivals 65 = .ok (.aload_n 0, 1) := by decide +kernel
theorem dX12_rivals_66 : decode cX12_rivals 66 = .ok (.getfield 42, 3) := by decide +kernel
theorem dX12_rivals_69 : decode cX12_rivals 69 = .ok (.iconst 0, 1) := by decide +kernel
theorem dX12_rivals_70 : decode cX12_rivals 70 = .ok (.invokestatic 219, 3) := by decide +kernel
theorem dX12_rivals_73 : decode cX12_rivals 73 = .ok (.iconst 0, 1) := by decide +kernel
theorem dX12_rivals_74 : decode cX12_rivals 74 = .ok (.istore 6, 2) := by decide +kernel
theorem dX12_rivals_76 : decode cX12_rivals 76 = .ok (.iload 6, 2) := by decide +kernel
theorem dX12_rivals_78 : decode cX12_rivals 78 = .ok (.aload_n 0, 1) := by decide +kernel
theorem dX12_rivals_79 : decode cX12_rivals 79 = .ok (.getfield 95, 3) := by decide +kernel
theorem dX12_rivals_82 : decode cX12_rivals 82 = .ok (.if_icmp .ge 34, 3) := by decide +kernel
theorem dX12_rivals_85 : decode cX12_rivals 85 = .ok (.iload 5, 2) := by decide +kernel
theorem dX12_rivals_87 : decode cX12_rivals 87 = .ok (.iload 6, 2) := by decide +kernel
theorem dX12_rivals_89 : decode cX12_rivals 89 = .ok (.invokestatic 292, 3) := by decide +kernel
theorem dX12_rivals_92 : decode cX12_rivals 92 = .ok (.ifCond .eq 18, 3) := by decide +kernel
theorem dX12_rivals_95 : decode cX12_rivals 95 = .ok (.aload_n 0, 1) := by decide +kernel
theorem dX12_rivals_96 : decode cX12_rivals 96 = .ok (.getfield 42, 3) := by decide +kernel
theorem dX12_rivals_99 : decode cX12_rivals 99 = .ok (.bipush 14, 2) := by decide +kernel
theorem dX12_rivals_101 : decode cX12_rivals 101 = .ok (.iload 6, 2) := by decide +kernel
theorem dX12_rivals_103 : decode cX12_rivals 103 = .ok (.iadd, 1) := by decide +kernel
theorem dX12_rivals_104 : decode cX12_rivals 104 = .ok (.dup2, 1) := by decide +kernel
theorem dX12_rivals_105 : decode cX12_rivals 105 = .ok (.iaload, 1) := by decide +kernel
theorem dX12_rivals_106 : decode cX12_rivals 106 = .ok (.bipush 99, 2) := by decide +kernel
theorem dX12_rivals_108 : decode cX12_rivals 108 = .ok (.iadd, 1) := by decide +kernel
theorem dX12_rivals_109 : decode cX12_rivals 109 = .ok (.iastore, 1) := by decide +kernel
theorem dX12_rivals_110 : decode cX12_rivals 110 = .ok (.iinc 6 1, 3) := by decide +kernel
theorem dX12_rivals_113 : decode cX12_rivals 113 = .ok (.goto (-37), 3) := by decide +kernel
theorem dX12_rivals_116 : decode cX12_rivals 116 = .ok (.aload_n 0, 1) := by decide +kernel
theorem dX12_rivals_117 : decode cX12_rivals 117 = .ok (.aload_n 0, 1) := by decide +kernel
theorem dX12_rivals_118 : decode cX12_rivals 118 = .ok (.getfield 42, 3) := by decide +kernel
theorem dX12_rivals_121 : decode cX12_rivals 121 = .ok (.iload_n 2, 1) := by decide +kernel
theorem dX12_rivals_122 : decode cX12_rivals 122 = .ok (.invokevirtual 233, 3) := by decide +kernel
theorem dX12_rivals_125 : decode cX12_rivals 125 = .ok (.aload_n 0, 1) := by decide +kernel
theorem dX12_rivals_126 : decode cX12_rivals 126 = .ok (.getfield 42, 3) := by decide +kernel
theorem dX12_rivals_129 : decode cX12_rivals 129 = .ok (.bipush 29, 2) := by decide +kernel
theorem dX12_rivals_131 : decode cX12_rivals 131 = .ok (.iaload, 1) := by decide +kernel
theorem dX12_rivals_132 : decode cX12_rivals 132 = .ok (.iload_n 1, 1) := by decide +kernel
theorem dX12_rivals_133 : decode cX12_rivals 133 = .ok (.if_icmp .ne 13, 3) := by decide +kernel
theorem dX12_rivals_136 : decode cX12_rivals 136 = .ok (.aload_n 0, 1) := by decide +kernel
theorem dX12_rivals_137 : decode cX12_rivals 137 = .ok (.iload 4, 2) := by decide +kernel
theorem dX12_rivals_139 : decode cX12_rivals 139 = .ok (.iload 5, 2) := by decide +kernel
theorem dX12_rivals_141 : decode cX12_rivals 141 = .ok (.invokevirtual 295, 3) := by decide +kernel
theorem dX12_rivals_144 : decode cX12_rivals 144 = .ok (.istore 4, 2) := by decide +kernel
theorem dX12_rivals_146 : decode cX12_rivals 146 = .ok (.iinc 5 1, 3) := by decide +kernel
theorem dX12_rivals_149 : decode cX12_rivals 149 = .ok (.goto (-106), 3) := by decide +kernel
theorem dX12_rivals_152 : decode cX12_rivals 152 = .ok (.aload_n 0, 1) := by decide +kernel
theorem dX12_rivals_153 : decode cX12_rivals 153 = .ok (.iload 4, 2) := by decide +kernel
theorem dX12_rivals_155 : decode cX12_rivals 155 = .ok (.invokevirtual 298, 3) := by decide +kernel
theorem dX12_rivals_158 : decode cX12_rivals 158 = .ok (.ireturn, 1) := by decide +kernel
theorem dX12_goes_0 : decode cX12_goes 0 = .ok (.aload_n 0, 1) := by decide +kernel
theorem dX12_goes_1 : decode cX12_goes 1 = .ok (.iconst 0, 1) := by decide +kernel
theorem dX12_goes_2 : decode cX12_goes 2 = .ok (.putfield 88, 3) := by decide +kernel
theorem dX12_goes_5 : decode cX12_goes 5 = .ok (.iload_n 1, 1) := by decide +kernel
theorem dX12_goes_6 : decode cX12_goes 6 = .ok (.iconst 1, 1) := by decide +kernel
theorem dX12_goes_7 : decode cX12_goes 7 = .ok (.bipush 60, 2) := by decide +kernel
theorem dX12_goes_9 : decode cX12_goes 9 = .ok (.invokestatic 98, 3) := by decide +kernel
theorem dX12_goes_12 : decode cX12_goes 12 = .ok (.ifCond .ne 5, 3) := by decide +kernel
theorem dX12_goes_15 : decode cX12_goes 15 = .ok (.iconst (-1), 1) := by decide +kernel
theorem dX12_goes_16 : decode cX12_goes 16 = .ok (.ireturn, 1) := by decide +kernel
theorem dX12_goes_17 : decode cX12_goes 17 = .ok (.iconst (-1), 1) := by decide +kernel
theorem dX12_goes_18 : decode cX12_goes 18 = .ok (.istore_n 2, 1) := by decide +kernel
theorem dX12_goes_19 : decode cX12_goes 19 = .ok (.iconst (-1), 1) := by decide +kernel
theorem dX12_goes_20 : decode cX12_goes 20 = .ok (.istore_n 3, 1) := by decide +kernel
theorem dX12_goes_21 : decode cX12_goes 21 = .ok (.iconst 0, 1) := by decide +kernel
theorem dX12_goes_22 : decode cX12_goes 22 = .ok (.istore 4, 2) := by decide +kernel
theorem dX12_goes_24 : decode cX12_goes 24 = .ok (.iload 4, 2) := by decide +kernel
theorem dX12_goes_26 : decode cX12_goes 26 = .ok (.aload_n 0, 1) := by decide +kernel
theorem dX12_goes_27 : decode cX12_goes 27 = .ok (.getfield 95, 3) := by decide +kernel
theorem dX12_goes_30 : decode cX12_goes 30 = .ok (.if_icmp .ge 111, 3) := by decide +kernel
theorem dX12_goes_33 : decode cX12_goes 33 = .ok (.aload_n 0, 1) := by decide +kernel
theorem dX12_goes_34 : decode cX12_goes 34 = .ok (.getfield 9, 3) := by decide +kernel
theorem dX12_goes_37 : decode cX12_goes 37 = .ok (.bipush 7, 2) := by decide +kernel
theorem dX12_goes_39 : decode cX12_goes 39 = .ok (.iload 4, 2) := by decide +kernel
theorem dX12_goes_41 : decode cX12_goes 41 = .ok (.iadd, 1) := by decide +kernel
theorem dX12_goes_42 : decode cX12_goes 42 = .ok (.iaload, 1) := by decide +kernel
theorem dX12_goes_43 : decode cX12_goes 43 = .ok (.ifCond .eq 6, 3) := by decide +kernel
theorem dX12_goes_46 : decode cX12_goes 46 = .ok (.goto 89, 3) := by decide +kernel
theorem dX12_goes_49 : decode cX12_goes 49 = .ok (.aload_n 0, 1) := by decide +kernel
theorem dX12_goes_50 : decode cX12_goes 50 = .ok (.getfield 9, 3) := by decide +kernel
theorem dX12_goes_53 : decode cX12_goes 53 = .ok (.aload_n 0, 1) := by decide +kernel
theorem dX12_goes_54 : decode cX12_goes 54 = .ok (.getfield 42, 3) := by decide +kernel
theorem dX12_goes_57 : decode cX12_goes 57 = .ok (.iconst 0, 1) := by decide +kernel
theorem dX12_goes_58 : decode cX12_goes 58 = .ok (.invokestatic 219, 3) := by decide +kernel
theorem dX12_goes_61 : decode cX12_goes 61 = .ok (.aload_n 0, 1) := by decide +kernel
theorem dX12_goes_62 : decode cX12_goes 62 = .ok (.getfield 42, 3) := by decide +kernel
theorem dX12_goes_65 : decode cX12_goes 65 = .ok (.bipush 7, 2) := by decide +kernel
theorem dX12_goes_67 : decode cX12_goes 67 = .ok (.iload 4, 2) := by decide +kernel
theorem dX12_goes_69 : decode cX12_goes 69 = .ok (.iadd, 1) := by decide +kernel
theorem dX12_goes_70 : decode cX12_goes 70 = .ok (.iconst 1, 1) := by decide +kernel
theorem dX12_goes_71 : decode cX12_goes 71 = .ok (.iastore, 1) := by decide +kernel
theorem dX12_goes_72 : decode cX12_goes 72 = .ok (.iconst 0, 1) := by decide +kernel
theorem dX12_goes_73 : decode cX12_goes 73 = .ok (.istore 5, 2) := by decide +kernel
theorem dX12_goes_75 : decode cX12_goes 75 = .ok (.iconst 0, 1) := by decide +kernel
theorem dX12_goes_76 : decode cX12_goes 76 = .ok (.istore 6, 2) := by decide +kernel
theorem dX12_goes_78 : decode cX12_goes 78 = .ok (.iload 6, 2) := by decide +kernel
theorem dX12_goes_80 : decode cX12_goes 80 = .ok (.iload_n 1, 1) := by decide +kernel
theorem dX12_goes_81 : decode cX12_goes 81 = .ok (.if_icmp .ge 39, 3) := by decide +kernel
theorem dX12_goes_84 : decode cX12_goes 84 = .ok (.aload_n 0, 1) := by decide +kernel
theorem dX12_goes_85 : decode cX12_goes 85 = .ok (.aload_n 0, 1) := by decide +kernel
theorem dX12_goes_86 : decode cX12_goes 86 = .ok (.getfield 42, 3) := by decide +kernel
theorem dX12_goes_89 : decode cX12_goes 89 = .ok (.invokevirtual 230, 3) := by decide +kernel
theorem dX12_goes_92 : decode cX12_goes 92 = .ok (.iload 5, 2) := by decide +kernel
theorem dX12_goes_94 : decode cX12_goes 94 = .ok (.aload_n 0, 1) := by decide +kernel
theorem dX12_goes_95 : decode cX12_goes 95 = .ok (.getfield 42, 3) := by decide +kernel
theorem dX12_goes_98 : decode cX12_goes 98 = .ok (.bipush 29, 2) := by decide +kernel
theorem dX12_goes_100 : decode cX12_goes 100 = .ok (.iaload, 1) := by decide +kernel
theorem dX12_goes_101 : decode cX12_goes 101 = .ok (.iload 4, 2) := by decide +kernel
theorem dX12_goes_103 : decode cX12_goes 103 = .ok (.if_icmp .ne 7, 3) := by decide +kernel
theorem dX12_goes_106 : decode cX12_goes 106 = .ok (.iconst 1, 1) := by decide +kernel
theorem dX12_goes_107 : decode cX12_goes 107 = .ok (.goto 4, 3) := by decide +kernel
theorem dX12_goes_110 : decode cX12_goes 110 = .ok (.iconst 0, 1) := by decide +kernel
theorem dX12_goes_111 : decode cX12_goes 111 = .ok (.iadd, 1) := by decide +kernel
theorem dX12_goes_112 : decode cX12_goes 112 = .ok (.istore 5, 2) := by decide +kernel
theorem dX12_goes_114 : decode cX12_goes 114 = .ok (.iinc 6 1, 3) := by decide +kernel
theorem dX12_goes_117 : decode cX12_goes 117 = .ok (.goto (-39), 3) := by decide +kernel
theorem dX12_goes_120 : decode cX12_goes 120 = .ok (.iload 5, 2) := by decide +kernel
theorem dX12_goes_122 : decode cX12_goes 122 = .ok (.iload_n 3, 1) := by decide +kernel
theorem dX12_goes_123 : decode cX12_goes 123 = .ok (.if_icmp .gt 6, 3) := by decide +kernel
theorem dX12_goes_126 : decode cX12_goes 126 = .ok (.goto 9, 3) := by decide +kernel
theorem dX12_goes_129 : decode cX12_goes 129 = .ok (.iload 4, 2) := by decide +kernel
theorem dX12_goes_131 : decode cX12_goes 131 = .ok (.istore_n 2, 1) := by decide +kernel
theorem dX12_goes_132 : decode cX12_goes 132 = .ok (.iload 5, 2) := by decide +kernel
theorem dX12_goes_134 : decode cX12_goes 134 = .ok (.istore_n 3, 1) := by decide +kernel
theorem dX12_goes_135 : decode cX12_goes 135 = .ok (.iinc 4 1, 3) := by decide +kernel
theorem dX12_goes_138 : decode cX12_goes 138 = .ok (.goto (-114), 3) := by decide +kernel
theorem dX12_goes_141 : decode cX12_goes 141 = .ok (.iload_n 2, 1) := by decide +kernel
theorem dX12_goes_142 : decode cX12_goes 142 = .ok (.iconst (-1), 1) := by decide +kernel
theorem dX12_goes_143 : decode cX12_goes 143 = .ok (.if_icmp .ne 6, 3) := by decide +kernel
theorem dX12_goes_146 : decode cX12_goes 146 = .ok (.bipush (-2), 2) := by decide +kernel
theorem dX12_goes_148 : decode cX12_goes 148 = .ok (.ireturn, 1) := by decide +kernel
theorem dX12_goes_149 : decode cX12_goes 149 = .ok (.aload_n 0, 1) := by decide +kernel
theorem dX12_goes_150 : decode cX12_goes 150 = .ok (.iconst 0, 1) := by decide +kernel
theorem dX12_goes_151 : decode cX12_goes 151 = .ok (.putfield 92, 3) := by decide +kernel
theorem dX12_goes_154 : decode cX12_goes 154 = .ok (.aload_n 0, 1) := by decide +kernel
theorem dX12_goes_155 : decode cX12_goes 155 = .ok (.iload_n 3, 1) := by decide +kernel
theorem dX12_goes_156 : decode cX12_goes 156 = .ok (.i2l, 1) := by decide +kernel
theorem dX12_goes_157 : decode cX12_goes 157 = .ok (.invokevirtual 236, 3) := by decide +kernel
theorem dX12_goes_160 : decode cX12_goes 160 = .ok (.iload_n 2, 1) := by decide +kernel
theorem dX12_goes_161 : decode cX12_goes 161 = .ok (.ireturn, 1) := by decide +kernel
theorem dX12_ousts_0 : decode cX12_ousts 0 = .ok (.aload_n 0, 1) := by decide +kernel
theorem dX12_ousts_1 : decode cX12_ousts 1 = .ok (.iconst 0, 1) := by decide +kernel
theorem dX12_ousts_2 : decode cX12_ousts 2 = .ok (.putfield 88, 3) := by decide +kernel
theorem dX12_ousts_5 : decode cX12_ousts 5 = .ok (.aload_n 0, 1) := by decide +kernel
theorem dX12_ousts_6 : decode cX12_ousts 6 = .ok (.iload_n 1, 1) := by decide +kernel
theorem dX12_ousts_7 : decode cX12_ousts 7 = .ok (.invokevirtual 205, 3) := by decide +kernel
theorem dX12_ousts_10 : decode cX12_ousts 10 = .ok (.ifCond .eq 10, 3) := by decide +kernel
theorem dX12_ousts_13 : decode cX12_ousts 13 = .ok (.iload_n 2, 1) := by decide +kernel
theorem dX12_ousts_14 : decode cX12_ousts 14 = .ok (.invokestatic 289, 3) := by decide +kernel
theorem dX12_ousts_17 : decode cX12_ousts 17 = .ok (.ifCond .ne 5, 3) := by decide +kernel
theorem dX12_ousts_20 : decode cX12_ousts 20 = .ok (.iconst (-1), 1) := by decide +kernel
theorem dX12_ousts_21 : decode cX12_ousts 21 = .ok (.ireturn, 1) := by decide +kernel
theorem dX12_ousts_22 : decode cX12_ousts 22 = .ok (.aload_n 0, 1) := by decide +kernel
theorem dX12_ousts_23 : decode cX12_ousts 23 = .ok (.invokevirtual 301, 3) := by decide +kernel
theorem dX12_ousts_26 : decode cX12_ousts 26 = .ok (.aload_n 0, 1) := by decide +kernel
theorem dX12_ousts_27 : decode cX12_ousts 27 = .ok (.aload_n 0, 1) := by decide +kernel
theorem dX12_ousts_28 : decode cX12_ousts 28 = .ok (.getfield 9, 3) := by decide +kernel
theorem dX12_ousts_31 : decode cX12_ousts 31 = .ok (.invokevirtual 240, 3) := by decide +kernel
theorem dX12_ousts_34 : decode cX12_ousts 34 = .ok (.iconst (-1), 1) := by decide +kernel
theorem dX12_ousts_35 : decode cX12_ousts 35 = .ok (.ixor, 1) := by decide +kernel
theorem dX12_ousts_36 : decode cX12_ousts 36 = .ok (.iand, 1) := by decide +kernel
theorem dX12_ousts_37 : decode cX12_ousts 37 = .ok (.istore_n 3, 1) := by decide +kernel
theorem dX12_ousts_38 : decode cX12_ousts 38 = .ok (.iconst (-1), 1) := by decide +kernel
theorem dX12_ousts_39 : decode cX12_ousts 39 = .ok (.istore 4, 2) := by decide +kernel
theorem dX12_ousts_41 : decode cX12_ousts 41 = .ok (.iconst 0, 1) := by decide +kernel
theorem dX12_ousts_42 : decode cX12_ousts 42 = .ok (.istore 5, 2) := by decide +kernel
theorem dX12_ousts_44 : decode cX12_ousts 44 = .ok (.iload 5, 2) := by decide +kernel
theorem dX12_ousts_46 : decode cX12_ousts 46 = .ok (.iload_n 3, 1) := by decide +kernel
theorem dX12_ousts_47 : decode cX12_ousts 47 = .ok (.if_icmp .gt 102, 3) := by decide +kernel
theorem dX12_ousts_50 : decode cX12_ousts 50 = .ok (.iload 5, 2) := by decide +kernel
theorem dX12_ousts_52 : decode cX12_ousts 52 = .ok (.iload_n 3, 1) := by decide +kernel
theorem dX12_ousts_53 : decode cX12_ousts 53 = .ok (.iconst (-1), 1) := by decide +kernel
theorem dX12_ousts_54 : decode cX12_ousts 54 = .ok (.ixor, 1) := by decide +kernel
theorem dX12_ousts_55 : decode cX12_ousts 55 = .ok (.iand, 1) := by decide +kernel
theorem dX12_ousts_56 : decode cX12_ousts 56 = .ok (.ifCond .eq 6, 3) := by decide +kernel
theorem dX12_ousts_59 : decode cX12_ousts 59 = .ok (.goto 84, 3) := by decide +kernel
theorem dX12_ousts_62 : decode cX12_ousts 62 = .ok (.aload_n 0, 1) := by decide +kernel
theorem dX12_ousts_63 : decode cX12_ousts 63 = .ok (.getfield 9, 3) := by decide +kernel
theorem dX12_ousts_66 : decode cX12_ousts 66 = .ok (.aload_n 0, 1) := by decide +kernel
theorem dX12_ousts_67 : decode cX12_ousts 67 = .ok (.getfield 42, 3) := by decide +kernel
theorem dX12_ousts_70 : decode cX12_ousts 70 = .ok (.iconst 0, 1) := by decide +kernel
theorem dX12_ousts_71 : decode cX12_ousts 71 = .ok (.invokestatic 219, 3) := by decide +kernel
theorem dX12_ousts_74 : decode cX12_ousts 74 = .ok (.iconst 0, 1) := by decide +kernel
theorem dX12_ousts_75 : decode cX12_ousts 75 = .ok (.istore 6, 2) := by decide +kernel
theorem dX12_ousts_77 : decode cX12_ousts 77 = .ok (.iload 6, 2) := by decide +kernel
theorem dX12_ousts_79 : decode cX12_ousts 79 = .ok (.aload_n 0, 1) := by decide +kernel
theorem dX12_ousts_80 : decode cX12_ousts 80 = .ok (.getfield 95, 3) := by decide +kernel
theorem dX12_ousts_83 : decode cX12_ousts 83 = .ok (.if_icmp .ge 30, 3) := by decide +kernel
theorem dX12_ousts_86 : decode cX12_ousts 86 = .ok (.iload 5, 2) := by decide +kernel
theorem dX12_ousts_88 : decode cX12_ousts 88 = .ok (.iload 6, 2) := by decide +kernel
theorem dX12_ousts_90 : decode cX12_ousts 90 = .ok (.invokestatic 292, 3) := by decide +kernel
theorem dX12_ousts_93 : decode cX12_ousts 93 = .ok (.ifCond .eq 14, 3) := by decide +kernel
theorem dX12_ousts_96 : decode cX12_ousts 96 = .ok (.aload_n 0, 1) := by decide +kernel
theorem dX12_ousts_97 : decode cX12_ousts 97 = .ok (.getfield 42, 3) := by decide +kernel
theorem dX12_ousts_100 : decode cX12_ousts 100 = .ok (.bipush 7, 2) := by decide +kernel
theorem dX12_ousts_102 : decode cX12_ousts 102 = .ok (.iload 6, 2) := by decide +kernel
theorem dX12_ousts_104 : decode cX12_ousts 104 = .ok (.iadd, 1) := by decide +kernel
theorem dX12_ousts_105 : decode cX12_ousts 105 = .ok (.iconst 1, 1) := by decide +kernel
theorem dX12_ousts_106 : decode cX12_ousts 106 = .ok (.iastore, 1) := by decide +kernel
theorem dX12_ousts_107 : decode cX12_ousts 107 = .ok (.iinc 6 1, 3) := by decide +kernel
theorem dX12_ousts_110 : decode cX12_ousts 110 = .ok (.goto (-33), 3) := by decide +kernel
theorem dX12_ousts_113 : decode cX12_ousts 113 = .ok (.aload_n 0, 1) := by decide +kernel
theorem dX12_ousts_114 : decode cX12_ousts 114 = .ok (.aload_n 0, 1) := by decide +kernel
theorem dX12_ousts_115 : decode cX12_ousts 115 = .ok (.getfield 42, 3) := by decide +kernel
theorem dX12_ousts_118 : decode cX12_ousts 118 = .ok (.iload_n 2, 1) := by decide +kernel
theorem dX12_ousts_119 : decode cX12_ousts 119 = .ok (.invokevirtual 233, 3) := by decide +kernel
theorem dX12_ousts_122 : decode cX12_ousts 122 = .ok (.aload_n 0, 1) := by decide +kernel
theorem dX12_ousts_123 : decode cX12_ousts 123 = .ok (.getfield 42, 3) := by decide +kernel
theorem dX12_ousts_126 : decode cX12_ousts 126 = .ok (.bipush 29, 2) := by decide +kernel
theorem dX12_ousts_128 : decode cX12_ousts 128 = .ok (.iaload, 1) := by decide +kernel
theorem dX12_ousts_129 : decode cX12_ousts 129 = .ok (.iload_n 1, 1) := by decide +kernel
theorem dX12_ousts_130 : decode cX12_ousts 130 = .ok (.if_icmp .eq 13, 3) := by decide +kernel
theorem dX12_ousts_133 : decode cX12_ousts 133 = .ok (.aload_n 0, 1) := by decide +kernel
theorem dX12_ousts_134 : decode cX12_ousts 134 = .ok (.iload 4, 2) := by decide +kernel
theorem dX12_ousts_136 : decode cX12_ousts 136 = .ok (.iload 5, 2) := by decide +kernel
theorem dX12_ousts_138 : decode cX12_ousts 138 = .ok (.invokevirtual 295, 3) := by decide +kernel
theorem dX12_ousts_141 : decode cX12_ousts 141 = .ok (.istore 4, 2) := by decide +kernel
theorem dX12_ousts_143 : decode cX12_ousts 143 = .ok (.iinc 5 1, 3) := by decide +kernel
theorem dX12_ousts_146 : decode cX12_ousts 146 = .ok (.goto (-102), 3) := by decide +kernel
theorem dX12_ousts_149 : decode cX12_ousts 149 = .ok (.aload_n 0, 1) := by decide +kernel
theorem dX12_ousts_150 : decode cX12_ousts 150 = .ok (.iload 4, 2) := by decide +kernel
theorem dX12_ousts_152 : decode cX12_ousts 152 = .ok (.invokevirtual 298, 3) := by decide +kernel
theorem dX12_ousts_155 : decode cX12_ousts 155 = .ok (.ireturn, 1) := by decide +kernel
theorem dX12_lawyers_0 : decode cX12_lawyers 0 = .ok (.aload_n 0, 1) := by decide +kernel
theorem dX12_lawyers_1 : decode cX12_lawyers 1 = .ok (.iconst 0, 1) := by decide +kernel
theorem dX12_lawyers_2 : decode cX12_lawyers 2 = .ok (.putfield 88, 3) := by decide +kernel
theorem dX12_lawyers_5 : decode cX12_lawyers 5 = .ok (.iload_n 1, 1) := by decide +kernel
theorem dX12_lawyers_6 : decode cX12_lawyers 6 = .ok (.iconst 0, 1) := by decide +kernel
theorem dX12_lawyers_7 : decode cX12_lawyers 7 = .ok (.bipush 9, 2) := by decide +kernel
theorem dX12_lawyers_9 : decode cX12_lawyers 9 = .ok (.invokestatic 98, 3) := by decide +kernel
theorem dX12_lawyers_12 : decode cX12_lawyers 12 = .ok (.ifCond .ne 5, 3) := by decide +kernel
theorem dX12_lawyers_15 : decode cX12_lawyers 15 = .ok (.iconst (-1), 1) := by decide +kernel
theorem dX12_lawyers_16 : decode cX12_lawyers 16 = .ok (.ireturn, 1) := by decide +kernel
theorem dX12_lawyers_17 : decode cX12_lawyers 17 = .ok (.iconst (-1), 1) := by decide +kernel
theorem dX12_lawyers_18 : decode cX12_lawyers 18 = .ok (.istore_n 2, 1) := by decide +kernel
theorem dX12_lawyers_19 : decode cX12_lawyers 19 = .ok (.iconst 0, 1) := by decide +kernel
theorem dX12_lawyers_20 : decode cX12_lawyers 20 = .ok (.istore_n 3, 1) := by decide +kernel
theorem dX12_lawyers_21 : decode cX12_lawyers 21 = .ok (.iload_n 3, 1) := by decide +kernel
theorem dX12_lawyers_22 : decode cX12_lawyers 22 = .ok (.iconst 1, 1) := by decide +kernel
theorem dX12_lawyers_23 : decode cX12_lawyers 23 = .ok (.aload_n 0, 1) := by decide +kernel
theorem dX12_lawyers_24 : decode cX12_lawyers 24 = .ok (.getfield 9, 3) := by decide +kernel
theorem dX12_lawyers_27 : decode cX12_lawyers 27 = .ok (.bipush 28, 2) := by decide +kernel
theorem dX12_lawyers_29 : decode cX12_lawyers 29 = .ok (.iaload, 1) := by decide +kernel
theorem dX12_lawyers_30 : decode cX12_lawyers 30 = .ok (.iconst 1, 1) := by decide +kernel
theorem dX12_lawyers_31 : decode cX12_lawyers 31 = .ok (.iadd, 1) := by decide +kernel
theorem dX12_lawyers_32 : decode cX12_lawyers 32 = .ok (.ishl, 1) := by decide +kernel
theorem dX12_lawyers_33 : decode cX12_lawyers 33 = .ok (.if_icmp .ge 121, 3) := by decide +kernel
theorem dX12_lawyers_36 : decode cX12_lawyers 36 = .ok (.iconst 1, 1) := by decide +kernel
theorem dX12_lawyers_37 : decode cX12_lawyers 37 = .ok (.istore 4, 2) := by decide +kernel
theorem dX12_lawyers_39 : decode cX12_lawyers 39 = .ok (.iconst 0, 1) := by decide +kernel
theorem dX12_lawyers_40 : decode cX12_lawyers 40 = .ok (.istore 5, 2) := by decide +kernel
theorem dX12_lawyers_42 : decode cX12_lawyers 42 = .ok (.iload 5, 2) := by decide +kernel
theorem dX12_lawyers_44 : decode cX12_lawyers 44 = .ok (.aload_n 0, 1) := by decide +kernel
theorem dX12_lawyers_45 : decode cX12_lawyers 45 = .ok (.getfield 95, 3) := by decide +kernel
theorem dX12_lawyers_48 : decode cX12_lawyers 48 = .ok (.if_icmp .ge 88, 3) := by decide +kernel
theorem dX12_lawyers_51 : decode cX12_lawyers 51 = .ok (.iconst 0, 1) := by decide +kernel
theorem dX12_lawyers_52 : decode cX12_lawyers 52 = .ok (.istore 6, 2) := by decide +kernel
theorem dX12_lawyers_54 : decode cX12_lawyers 54 = .ok (.iconst 0, 1) := by decide +kernel
theorem dX12_lawyers_55 : decode cX12_lawyers 55 = .ok (.istore 7, 2) := by decide +kernel
theorem dX12_lawyers_57 : decode cX12_lawyers 57 = .ok (.iload 7, 2) := by decide +kernel
theorem dX12_lawyers_59 : decode cX12_lawyers 59 = .ok (.aload_n 0, 1) := by decide +kernel
theorem dX12_lawyers_60 : decode cX12_lawyers 60 = .ok (.getfield 9, 3) := by decide +kernel
theorem dX12_lawyers_63 : decode cX12_lawyers 63 = .ok (.bipush 28, 2) := by decide +kernel
theorem dX12_lawyers_65 : decode cX12_lawyers 65 = .ok (.iaload, 1) := by decide +kernel
theorem dX12_lawyers_66 : decode cX12_lawyers 66 = .ok (.if_icmp .gt 47, 3) := by decide +kernel
theorem dX12_lawyers_69 : decode cX12_lawyers 69 = .ok (.iload 6, 2) := by decide +kernel
theorem dX12_lawyers_71 : decode cX12_lawyers 71 = .ok (.ifCond .ne 29, 3) := by decide +kernel
theorem dX12_lawyers_74 : decode cX12_lawyers 74 = .ok (.iload_n 3, 1) := by decide +kernel
theorem dX12_lawyers_75 : decode cX12_lawyers 75 = .ok (.iload 7, 2) := by decide +kernel
theorem dX12_lawyers_77 : decode cX12_lawyers 77 = .ok (.invokestatic 292, 3) := by decide +kernel
theorem dX12_lawyers_80 : decode cX12_lawyers 80 = .ok (.ifCond .eq 24, 3) := by decide +kernel
theorem dX12_lawyers_83 : decode cX12_lawyers 83 = .ok (.iload 7, 2) := by decide +kernel
theorem dX12_lawyers_85 : decode cX12_lawyers 85 = .ok (.aload_n 0, 1) := by decide +kernel
theorem dX12_lawyers_86 : decode cX12_lawyers 86 = .ok (.getfield 9, 3) := by decide +kernel
theorem dX12_lawyers_89 : decode cX12_lawyers 89 = .ok (.iload 5, 2) := by decide +kernel
theorem dX12_lawyers_91 : decode cX12_lawyers 91 = .ok (.iaload, 1) := by decide +kernel
theorem dX12_lawyers_92 : decode cX12_lawyers 92 = .ok (.isub, 1) := by decide +kernel
theorem dX12_lawyers_93 : decode cX12_lawyers 93 = .ok (.invokestatic 282, 3) := by decide +kernel
theorem dX12_lawyers_96 : decode cX12_lawyers 96 = .ok (.iload_n 1, 1) := by decide +kernel
theorem dX12_lawyers_97 : decode cX12_lawyers 97 = .ok (.if_icmp .gt 7, 3) := by decide +kernel
theorem dX12_lawyers_100 : decode cX12_lawyers 100 = .ok (.iconst 1, 1) := by decide +kernel
theorem dX12_lawyers_101 : decode cX12_lawyers 101 = .ok (.goto 4, 3) := by decide +kernel
theorem dX12_lawyers_104 : decode cX12_lawyers 104 = .ok (.iconst 0, 1) := by decide +kernel
theorem dX12_lawyers_105 : decode cX12_lawyers 105 = .ok (.istore 6, 2) := by decide +kernel
theorem dX12_lawyers_107 : decode cX12_lawyers 107 = .ok (.iinc 7 1, 3) := by decide +kernel
theorem dX12_lawyers_110 : decode cX12_lawyers 110 = .ok (.goto (-53), 3) := by decide +kernel
theorem dX12_lawyers_113 : decode cX12_lawyers 113 = .ok (.iload 4, 2) := by decide +kernel
theorem dX12_lawyers_115 : decode cX12_lawyers 115 = .ok (.ifCond .eq 12, 3) := by decide +kernel
theorem dX12_lawyers_118 : decode cX12_lawyers 118 = .ok (.iload 6, 2) := by decide +kernel
theorem dX12_lawyers_120 : decode cX12_lawyers 120 = .ok (.ifCond .eq 7, 3) := by decide +kernel
theorem dX12_lawyers_123 : decode cX12_lawyers 123 = .ok (.iconst 1, 1) := by decide +kernel
theorem dX12_lawyers_124 : decode cX12_lawyers 124 = .ok (.goto 4, 3) := by decide +kernel
theorem dX12_lawyers_127 : decode cX12_lawyers 127 = .ok (.iconst 0, 1) := by decide +kernel
theorem dX12_lawyers_128 : decode cX12_lawyers 128 = .ok (.istore 4, 2) := by decide +kernel
theorem dX12_lawyers_130 : decode cX12_lawyers 130 = .ok (.iinc 5 1, 3) := by decide +kernel
theorem dX12_lawyers_133 : decode cX12_lawyers 133 = .ok (.goto (-91), 3) := by decide +kernel
theorem dX12_lawyers_136 : decode cX12_lawyers 136 = .ok (.iload 4, 2) := by decide +kernel
theorem dX12_lawyers_138 : decode cX12_lawyers 138 = .ok (.ifCond .eq 10, 3) := by decide +kernel
theorem dX12_lawyers_141 : decode cX12_lawyers 141 = .ok (.aload_n 0, 1) := by decide +kernel
theorem dX12_lawyers_142 : decode cX12_lawyers 142 = .ok (.iload_n 2, 1) := by decide +kernel
theorem dX12_lawyers_143 : decode cX12_lawyers 143 = .ok (.iload_n 3, 1) := by decide +kernel
theorem dX12_lawyers_144 : decode cX12_lawyers 144 = .ok (.invokevirtual 295, 3) := by decide +kernel
theorem dX12_lawyers_147 : decode cX12_lawyers 147 = .ok (.istore_n 2, 1) := by decide +kernel
theorem dX12_lawyers_148 : decode cX12_lawyers 148 = .ok (.iinc 3 1, 3) := by decide +kernel
theorem dX12_lawyers_151 : decode cX12_lawyers 151 = .ok (.goto (-130), 3) := by decide +kernel
theorem dX12_lawyers_154 : decode cX12_lawyers 154 = .ok (.aload_n 0, 1) := by decide +kernel
theorem dX12_lawyers_155 : decode cX12_lawyers 155 = .ok (.iload_n 2, 1) := by decide +kernel
theorem dX12_lawyers_156 : decode cX12_lawyers 156 = .ok (.invokevirtual 298, 3) := by decide +kernel
theorem dX12_lawyers_159 : decode cX12_lawyers 159 = .ok (.ireturn, 1) := by decide +kernel
theorem dX12_rope_0 : decode cX12_rope 0 = .ok (.aload_n 0, 1) := by decide +kernel
theorem dX12_rope_1 : decode cX12_rope 1 = .ok (.iconst 0, 1) := by decide +kernel
theorem dX12_rope_2 : decode cX12_rope 2 = .ok (.putfield 88, 3) := by decide +kernel
theorem dX12_rope_5 : decode cX12_rope 5 = .ok (.iconst 0, 1) := by decide +kernel
theorem dX12_rope_6 : decode cX12_rope 6 = .ok (.istore_n 1, 1) := by decide +kernel
theorem dX12_rope_7 : decode cX12_rope 7 = .ok (.aload_n 0, 1) := by decide +kernel
theorem dX12_rope_8 : decode cX12_rope 8 = .ok (.getfield 95, 3) := by decide +kernel
theorem dX12_rope_11 : decode cX12_rope 11 = .ok (.iconst 1, 1) := by decide +kernel
theorem dX12_rope_12 : decode cX12_rope 12 = .ok (.isub, 1) := by decide +kernel
theorem dX12_rope_13 : decode cX12_rope 13 = .ok (.istore_n 2, 1) := by decide +kernel
theorem dX12_rope_14 : decode cX12_rope 14 = .ok (.iload_n 2, 1) := by decide +kernel
theorem dX12_rope_15 : decode cX12_rope 15 = .ok (.ifCond .lt 83, 3) := by decide +kernel
theorem dX12_rope_18 : decode cX12_rope 18 = .ok (.aload_n 0, 1) := by decide +kernel
theorem dX12_rope_19 : decode cX12_rope 19 = .ok (.getfield 60, 3) := by decide +kernel
theorem dX12_rope_22 : decode cX12_rope 22 = .ok (.iload_n 2, 1) := by decide +kernel
theorem dX12_rope_23 : decode cX12_rope 23 = .ok (.iconst 1, 1) := by decide +kernel
theorem dX12_rope_24 : decode cX12_rope 24 = .ok (.iastore, 1) := by decide +kernel
theorem dX12_rope_25 : decode cX12_rope 25 = .ok (.iload_n 2, 1) := by decide +kernel
theorem dX12_rope_26 : decode cX12_rope 26 = .ok (.iconst 1, 1) := by decide +kernel
theorem dX12_rope_27 : decode cX12_rope 27 = .ok (.iadd, 1) := by decide +kernel
theorem dX12_rope_28 : decode cX12_rope 28 = .ok (.istore_n 3, 1) := by decide +kernel
theorem dX12_rope_29 : decode cX12_rope 29 = .ok (.iload_n 3, 1) := by decide +kernel
theorem dX12_rope_30 : decode cX12_rope 30 = .ok (.aload_n 0, 1) := by decide +kernel
theorem dX12_rope_31 : decode cX12_rope 31 = .ok (.getfield 95, 3) := by decide +kernel
theorem dX12_rope_34 : decode cX12_rope 34 = .ok (.if_icmp .ge 47, 3) := by decide +kernel
theorem dX12_rope_37 : decode cX12_rope 37 = .ok (.aload_n 0, 1) := by decide +kernel
theorem dX12_rope_38 : decode cX12_rope 38 = .ok (.getfield 9, 3) := by decide +kernel
theorem dX12_rope_41 : decode cX12_rope 41 = .ok (.iload_n 3, 1) := by decide +kernel
theorem dX12_rope_42 : decode cX12_rope 42 = .ok (.iaload, 1) := by decide +kernel
theorem dX12_rope_43 : decode cX12_rope 43 = .ok (.aload_n 0, 1) := by decide +kernel
theorem dX12_rope_44 : decode cX12_rope 44 = .ok (.getfield 9, 3) := by decide +kernel
theorem dX12_rope_47 : decode cX12_rope 47 = .ok (.iload_n 2, 1) := by decide +kernel
theorem dX12_rope_48 : decode cX12_rope 48 = .ok (.iaload, 1) := by decide +kernel
theorem dX12_rope_49 : decode cX12_rope 49 = .ok (.if_icmp .le 26, 3) := by decide +kernel
theorem dX12_rope_52 : decode cX12_rope 52 = .ok (.aload_n 0, 1) := by decide +kernel
theorem dX12_rope_53 : decode cX12_rope 53 = .ok (.getfield 60, 3) := by decide +kernel
theorem dX12_rope_56 : decode cX12_rope 56 = .ok (.iload_n 2, 1) := by decide +kernel
theorem dX12_rope_57 : decode cX12_rope 57 = .ok (.aload_n 0, 1) := by decide +kernel
theorem dX12_rope_58 : decode cX12_rope 58 = .ok (.getfield 60, 3) := by decide +kernel
theorem dX12_rope_61 : decode cX12_rope 61 = .ok (.iload_n 2, 1) := by decide +kernel
theorem dX12_rope_62 : decode cX12_rope 62 = .ok (.iaload, 1) := by decide +kernel
theorem dX12_rope_63 : decode cX12_rope 63 = .ok (.iconst 1, 1) := by decide +kernel
theorem dX12_rope_64 : decode cX12_rope 64 = .ok (.aload_n 0, 1) := by decide +kernel
theorem dX12_rope_65 : decode cX12_rope 65 = .ok (.getfield 60, 3) := by decide +kernel
theorem dX12_rope_68 : decode cX12_rope 68 = .ok (.iload_n 3, 1) := by decide +kernel
theorem dX12_rope_69 : decode cX12_rope 69 = .ok (.iaload, 1) := by decide +kernel
theorem dX12_rope_70 : decode cX12_rope 70 = .ok (.iadd, 1) := by decide +kernel
theorem dX12_rope_71 : decode cX12_rope 71 = .ok (.invokestatic 195, 3) := by decide +kernel
theorem dX12_rope_74 : decode cX12_rope 74 = .ok (.iastore, 1) := by decide +kernel
theorem dX12_rope_75 : decode cX12_rope 75 = .ok (.iinc 3 1, 3) := by decide +kernel
theorem dX12_rope_78 : decode cX12_rope 78 = .ok (.goto (-49), 3) := by decide +kernel
theorem dX12_rope_81 : decode cX12_rope 81 = .ok (.iload_n 1, 1) := by decide +kernel
theorem dX12_rope_82 : decode cX12_rope 82 = .ok (.aload_n 0, 1) := by decide +kernel
theorem dX12_rope_83 : decode cX12_rope 83 = .ok (.getfield 60, 3) := by decide +kernel
theorem dX12_rope_86 : decode cX12_rope 86 = .ok (.iload_n 2, 1) := by decide +kernel
theorem dX12_rope_87 : decode cX12_rope 87 = .ok (.iaload, 1) := by decide +kernel
theorem dX12_rope_88 : decode cX12_rope 88 = .ok (.invokestatic 195, 3) := by decide +kernel
theorem dX12_rope_91 : decode cX12_rope 91 = .ok (.istore_n 1, 1) := by decide +kernel
theorem dX12_rope_92 : decode cX12_rope 92 = .ok (.iinc 2 (-1), 3) := by decide +kernel
theorem dX12_rope_95 : decode cX12_rope 95 = .ok (.goto (-81), 3) := by decide +kernel
theorem dX12_rope_98 : decode cX12_rope 98 = .ok (.iconst (-1), 1) := by decide +kernel
theorem dX12_rope_99 : decode cX12_rope 99 = .ok (.istore_n 2, 1) := by decide +kernel
theorem dX12_rope_100 : decode cX12_rope 100 = .ok (.aload_n 0, 1) := by decide +kernel
theorem dX12_rope_101 : decode cX12_rope 101 = .ok (.iconst 0, 1) := by decide +kernel
theorem dX12_rope_102 : decode cX12_rope 102 = .ok (.putfield 92, 3) := by decide +kernel
theorem dX12_rope_105 : decode cX12_rope 105 = .ok (.iconst 0, 1) := by decide +kernel
theorem dX12_rope_106 : decode cX12_rope 106 = .ok (.istore_n 3, 1) := by decide +kernel
theorem dX12_rope_107 : decode cX12_rope 107 = .ok (.iload_n 3, 1) := by decide +kernel
theorem dX12_rope_108 : decode cX12_rope 108 = .ok (.aload_n 0, 1) := by decide +kernel
theorem dX12_rope_109 : decode cX12_rope 109 = .ok (.getfield 95, 3) := by decide +kernel
theorem dX12_rope_112 : decode cX12_rope 112 = .ok (.if_icmp .ge 58, 3) := by decide +kernel
theorem dX12_rope_115 : decode cX12_rope 115 = .ok (.aload_n 0, 1) := by decide +kernel
theorem dX12_rope_116 : decode cX12_rope 116 = .ok (.getfield 92, 3) := by decide +kernel
theorem dX12_rope_119 : decode cX12_rope 119 = .ok (.iload_n 1, 1) := by decide +kernel
theorem dX12_rope_120 : decode cX12_rope 120 = .ok (.if_icmp .ge 50, 3) := by decide +kernel
theorem dX12_rope_123 : decode cX12_rope 123 = .ok (.aload_n 0, 1) := by decide +kernel
theorem dX12_rope_124 : decode cX12_rope 124 = .ok (.getfield 60, 3) := by decide +kernel
theorem dX12_rope_127 : decode cX12_rope 127 = .ok (.iload_n 3, 1) := by decide +kernel
theorem dX12_rope_128 : decode cX12_rope 128 = .ok (.iaload, 1) := by decide +kernel
theorem dX12_rope_129 : decode cX12_rope 129 = .ok (.iload_n 1, 1) := by decide +kernel
theorem dX12_rope_130 : decode cX12_rope 130 = .ok (.aload_n 0, 1) := by decide +kernel
theorem dX12_rope_131 : decode cX12_rope 131 = .ok (.getfield 92, 3) := by decide +kernel
theorem dX12_rope_134 : decode cX12_rope 134 = .ok (.isub, 1) := by decide +kernel
theorem dX12_rope_135 : decode cX12_rope 135 = .ok (.if_icmp .ne 29, 3) := by decide +kernel
theorem dX12_rope_138 : decode cX12_rope 138 = .ok (.aload_n 0, 1) := by decide +kernel
theorem dX12_rope_139 : decode cX12_rope 139 = .ok (.getfield 9, 3) := by decide +kernel
theorem dX12_rope_142 : decode cX12_rope 142 = .ok (.iload_n 3, 1) := by decide +kernel
theorem dX12_rope_143 : decode cX12_rope 143 = .ok (.iaload, 1) := by decide +kernel
theorem dX12_rope_144 : decode cX12_rope 144 = .ok (.iload_n 2, 1) := by decide +kernel
theorem dX12_rope_145 : decode cX12_rope 145 = .ok (.if_icmp .gt 6, 3) := by decide +kernel
theorem dX12_rope_148 : decode cX12_rope 148 = .ok (.goto 16, 3) := by decide +kernel
theorem dX12_rope_151 : decode cX12_rope 151 = .ok (.aload_n 0, 1) := by decide +kernel
theorem dX12_rope_152 : decode cX12_rope 152 = .ok (.getfield 9, 3) := by decide +kernel
theorem dX12_rope_155 : decode cX12_rope 155 = .ok (.iload_n 3, 1) := by decide +kernel
theorem dX12_rope_156 : decode cX12_rope 156 = .ok (.iaload, 1) := by decide +kernel
theorem dX12_rope_157 : decode cX12_rope 157 = .ok (.istore_n 2, 1) := by decide +kernel
theorem dX12_rope_158 : decode cX12_rope 158 = .ok (.aload_n 0, 1) := by decide +kernel
theorem dX12_rope_159 : decode cX12_rope 159 = .ok (.iload_n 3, 1) := by decide +kernel
theorem dX12_rope_160 : decode cX12_rope 160 = .ok (.i2l, 1) := by decide +kernel
theorem dX12_rope_161 : decode cX12_rope 161 = .ok (.invokevirtual 236, 3) := by decide +kernel
theorem dX12_rope_164 : decode cX12_rope 164 = .ok (.iinc 3 1, 3) := by decide +kernel
theorem dX12_rope_167 : decode cX12_rope 167 = .ok (.goto (-60), 3) := by decide +kernel
theorem dX12_rope_170 : decode cX12_rope 170 = .ok (.iload_n 1, 1) := by decide +kernel
theorem dX12_rope_171 : decode cX12_rope 171 = .ok (.ireturn, 1) := by decide +kernel
theorem dX12_line_0 : decode cX12_line 0 = .ok (.aload_n 0, 1) := by decide +kernel
theorem dX12_line_1 : decode cX12_line 1 = .ok (.iconst 0, 1) := by decide +kernel
theorem dX12_line_2 : decode cX12_line 2 = .ok (.putfield 88, 3) := by decide +kernel
theorem dX12_line_5 : decode cX12_line 5 = .ok (.aload_n 0, 1) := by decide +kernel
theorem dX12_line_6 : decode cX12_line 6 = .ok (.iconst 0, 1) := by decide +kernel
theorem dX12_line_7 : decode cX12_line 7 = .ok (.putfield 92, 3) := by decide +kernel
theorem dX12_line_10 : decode cX12_line 10 = .ok (.bipush 9, 2) := by decide +kernel
theorem dX12_line_12 : decode cX12_line 12 = .ok (.istore_n 1, 1) := by decide +kernel
theorem dX12_line_13 : decode cX12_line 13 = .ok (.iload_n 1, 1) := by decide +kernel
theorem dX12_line_14 : decode cX12_line 14 = .ok (.ifCond .lt 41, 3) := by decide +kernel
theorem dX12_line_17 : decode cX12_line 17 = .ok (.iconst 0, 1) := by decide +kernel
theorem dX12_line_18 : decode cX12_line 18 = .ok (.istore_n 2, 1) := by decide +kernel
theorem dX12_line_19 : decode cX12_line 19 = .ok (.iload_n 2, 1) := by decide +kernel
theorem dX12_line_20 : decode cX12_line 20 = .ok (.aload_n 0, 1) := by decide +kernel
theorem dX12_line_21 : decode cX12_line 21 = .ok (.getfield 95, 3) := by decide +kernel
theorem dX12_line_24 : decode cX12_line 24 = .ok (.if_icmp .ge 25, 3) := by decide +kernel
theorem dX12_line_27 : decode cX12_line 27 = .ok (.aload_n 0, 1) := by decide +kernel
theorem dX12_line_28 : decode cX12_line 28 = .ok (.getfield 9, 3) := by decide +kernel
theorem dX12_line_31 : decode cX12_line 31 = .ok (.iload_n 2, 1) := by decide +kernel
theorem dX12_line_32 : decode cX12_line 32 = .ok (.iaload, 1) := by decide +kernel
theorem dX12_line_33 : decode cX12_line 33 = .ok (.iload_n 1, 1) := by decide +kernel
theorem dX12_line_34 : decode cX12_line 34 = .ok (.if_icmp .ne 9, 3) := by decide +kernel
theorem dX12_line_37 : decode cX12_line 37 = .ok (.aload_n 0, 1) := by decide +kernel
theorem dX12_line_38 : decode cX12_line 38 = .ok (.iload_n 2, 1) := by decide +kernel
theorem dX12_line_39 : decode cX12_line 39 = .ok (.i2l, 1) := by decide +kernel
theorem dX12_line_40 : decode cX12_line 40 = .ok (.invokevirtual 236, 3) := by decide +kernel
theorem dX12_line_43 : decode cX12_line 43 = .ok (.iinc 2 1, 3) := by decide +kernel
theorem dX12_line_46 : decode cX12_line 46 = .ok (.goto (-27), 3) := by decide +kernel
theorem dX12_line_49 : decode cX12_line 49 = .ok (.iinc 1 (-1), 3) := by decide +kernel
theorem dX12_line_52 : decode cX12_line 52 = .ok (.goto (-39), 3) := by decide +kernel
theorem dX12_line_55 : decode cX12_line 55 = .ok (.aload_n 0, 1) := by decide +kernel
theorem dX12_line_56 : decode cX12_line 56 = .ok (.getfield 95, 3) := by decide +kernel
theorem dX12_line_59 : decode cX12_line 59 = .ok (.ireturn, 1) := by decide +kernel
theorem dX12_nearest_0 : decode cX12_nearest 0 = .ok (.aload_n 0, 1) := by decide +kernel
theorem dX12_nearest_1 : decode cX12_nearest 1 = .ok (.iconst 0, 1) := by decide +kernel
theorem dX12_nearest_2 : decode cX12_nearest 2 = .ok (.putfield 88, 3) := by decide +kernel
theorem dX12_nearest_5 : decode cX12_nearest 5 = .ok (.ldc_w 304, 3) := by decide +kernel
theorem dX12_nearest_8 : decode cX12_nearest 8 = .ok (.istore_n 1, 1) := by decide +kernel
theorem dX12_nearest_9 : decode cX12_nearest 9 = .ok (.iconst (-1), 1) := by decide +kernel
theorem dX12_nearest_10 : decode cX12_nearest 10 = .ok (.istore_n 2, 1) := by decide +kernel
theorem dX12_nearest_11 : decode cX12_nearest 11 = .ok (.iconst (-1), 1) := by decide +kernel
theorem dX12_nearest_12 : decode cX12_nearest 12 = .ok (.istore_n 3, 1) := by decide +kernel
theorem dX12_nearest_13 : decode cX12_nearest 13 = .ok (.iconst 0, 1) := by decide +kernel
theorem dX12_nearest_14 : decode cX12_nearest 14 = .ok (.istore 4, 2) := by decide +kernel
theorem dX12_nearest_16 : decode cX12_nearest 16 = .ok (.iload 4, 2) := by decide +kernel
theorem dX12_nearest_18 : decode cX12_nearest 18 = .ok (.aload_n 0, 1) := by decide +kernel
theorem dX12_nearest_19 : decode cX12_nearest 19 = .ok (.getfield 95, 3) := by decide +kernel
theorem dX12_nearest_22 : decode cX12_nearest 22 = .ok (.if_icmp .ge 80, 3) := by decide +kernel
theorem dX12_nearest_25 : decode cX12_nearest 25 = .ok (.iload 4, 2) := by decide +kernel
theorem dX12_nearest_27 : decode cX12_nearest 27 = .ok (.iconst 1, 1) := by decide +kernel
theorem dX12_nearest_28 : decode cX12_nearest 28 = .ok (.iadd, 1) := by decide +kernel
theorem dX12_nearest_29 : decode cX12_nearest 29 = .ok (.istore 5, 2) := by decide +kernel
theorem dX12_nearest_31 : decode cX12_nearest 31 = .ok (.iload 5, 2) := by decide +kernel
theorem dX12_nearest_33 : decode cX12_nearest 33 = .ok (.aload_n 0, 1) := by decide +kernel
theorem dX12_nearest_34 : decode cX12_nearest 34 = .ok (.getfield 95, 3) := by decide +kernel
theorem dX12_nearest_37 : decode cX12_nearest 37 = .ok (.if_icmp .ge 59, 3) := by decide +kernel
theorem dX12_nearest_40 : decode cX12_nearest 40 = .ok (.aload_n 0, 1) := by decide +kernel
theorem dX12_nearest_41 : decode cX12_nearest 41 = .ok (.getfield 9, 3) := by decide +kernel
theorem dX12_nearest_44 : decode cX12_nearest 44 = .ok (.iload 4, 2) := by decide +kernel
theorem dX12_nearest_46 : decode cX12_nearest 46 = .ok (.iaload, 1) := by decide +kernel
theorem dX12_nearest_47 : decode cX12_nearest 47 = .ok (.aload_n 0, 1) := by decide +kernel
theorem dX12_nearest_48 : decode cX12_nearest 48 = .ok (.getfield 9, 3) := by decide +kernel
theorem dX12_nearest_51 : decode cX12_nearest 51 = .ok (.iload 5, 2) := by decide +kernel
theorem dX12_nearest_53 : decode cX12_nearest 53 = .ok (.iaload, 1) := by decide +kernel
theorem dX12_nearest_54 : decode cX12_nearest 54 = .ok (.isub, 1) := by decide +kernel
theorem dX12_nearest_55 : decode cX12_nearest 55 = .ok (.invokestatic 282, 3) := by decide +kernel
theorem dX12_nearest_58 : decode cX12_nearest 58 = .ok (.iload_n 1, 1) := by decide +kernel
theorem dX12_nearest_59 : decode cX12_nearest 59 = .ok (.if_icmp .lt 6, 3) := by decide +kernel
theorem dX12_nearest_62 : decode cX12_nearest 62 = .ok (.goto 28, 3) := by decide +kernel
theorem dX12_nearest_65 : decode cX12_nearest 65 = .ok (.aload_n 0, 1) := by decide +kernel
theorem dX12_nearest_66 : decode cX12_nearest 66 = .ok (.getfield 9, 3) := by decide +kernel
theorem dX12_nearest_69 : decode cX12_nearest 69 = .ok (.iload 4, 2) := by decide +kernel
theorem dX12_nearest_71 : decode cX12_nearest 71 = .ok (.iaload, 1) := by decide +kernel
theorem dX12_nearest_72 : decode cX12_nearest 72 = .ok (.aload_n 0, 1) := by decide +kernel
theorem dX12_nearest_73 : decode cX12_nearest 73 = .ok (.getfield 9, 3) := by decide +kernel
theorem dX12_nearest_76 : decode cX12_nearest 76 = .ok (.iload 5, 2) := by decide +kernel
theorem dX12_nearest_78 : decode cX12_nearest 78 = .ok (.iaload, 1) := by decide +kernel
theorem dX12_nearest_79 : decode cX12_nearest 79 = .ok (.isub, 1) := by decide +kernel
theorem dX12_nearest_80 : decode cX12_nearest 80 = .ok (.invokestatic 282, 3) := by decide +kernel
theorem dX12_nearest_83 : decode cX12_nearest 83 = .ok (.istore_n 1, 1) := by decide +kernel
theorem dX12_nearest_84 : decode cX12_nearest 84 = .ok (.iload 4, 2) := by decide +kernel
theorem dX12_nearest_86 : decode cX12_nearest 86 = .ok (.istore_n 2, 1) := by decide +kernel
theorem dX12_nearest_87 : decode cX12_nearest 87 = .ok (.iload 5, 2) := by decide +kernel
theorem dX12_nearest_89 : decode cX12_nearest 89 = .ok (.istore_n 3, 1) := by decide +kernel
theorem dX12_nearest_90 : decode cX12_nearest 90 = .ok (.iinc 5 1, 3) := by decide +kernel
theorem dX12_nearest_93 : decode cX12_nearest 93 = .ok (.goto (-62), 3) := by decide +kernel
theorem dX12_nearest_96 : decode cX12_nearest 96 = .ok (.iinc 4 1, 3) := by decide +kernel
theorem dX12_nearest_99 : decode cX12_nearest 99 = .ok (.goto (-83), 3) := by decide +kernel
theorem dX12_nearest_102 : decode cX12_nearest 102 = .ok (.iload_n 2, 1) := by decide +kernel
theorem dX12_nearest_103 : decode cX12_nearest 103 = .ok (.iconst (-1), 1) := by decide +kernel
theorem dX12_nearest_104 : decode cX12_nearest 104 = .ok (.if_icmp .ne 6, 3) := by decide +kernel
theorem dX12_nearest_107 : decode cX12_nearest 107 = .ok (.bipush (-2), 2) := by decide +kernel
theorem dX12_nearest_109 : decode cX12_nearest 109 = .ok (.ireturn, 1) := by decide +kernel
theorem dX12_nearest_110 : decode cX12_nearest 110 = .ok (.aload_n 0, 1) := by decide +kernel
theorem dX12_nearest_111 : decode cX12_nearest 111 = .ok (.iconst 0, 1) := by decide +kernel
theorem dX12_nearest_112 : decode cX12_nearest 112 = .ok (.putfield 92, 3) := by decide +kernel
theorem dX12_nearest_115 : decode cX12_nearest 115 = .ok (.aload_n 0, 1) := by decide +kernel
theorem dX12_nearest_116 : decode cX12_nearest 116 = .ok (.iload_n 2, 1) := by decide +kernel
theorem dX12_nearest_117 : decode cX12_nearest 117 = .ok (.i2l, 1) := by decide +kernel
theorem dX12_nearest_118 : decode cX12_nearest 118 = .ok (.invokevirtual 236, 3) := by decide +kernel
theorem dX12_nearest_121 : decode cX12_nearest 121 = .ok (.aload_n 0, 1) := by decide +kernel
theorem dX12_nearest_122 : decode cX12_nearest 122 = .ok (.iload_n 3, 1) := by decide +kernel
theorem dX12_nearest_123 : decode cX12_nearest 123 = .ok (.i2l, 1) := by decide +kernel
theorem dX12_nearest_124 : decode cX12_nearest 124 = .ok (.invokevirtual 236, 3) := by decide +kernel
theorem dX12_nearest_127 : decode cX12_nearest 127 = .ok (.iload_n 1, 1) := by decide +kernel
theorem dX12_nearest_128 : decode cX12_nearest 128 = .ok (.ireturn, 1) := by decide +kernel
theorem dX12_builtOf_0 : decode cX12_builtOf 0 = .ok (.iconst 0, 1) := by decide +kernel
theorem dX12_builtOf_1 : decode cX12_builtOf 1 = .ok (.istore_n 2, 1) := by decide +kernel
theorem dX12_builtOf_2 : decode cX12_builtOf 2 = .ok (.iconst 0, 1) := by decide +kernel
theorem dX12_builtOf_3 : decode cX12_builtOf 3 = .ok (.istore_n 3, 1) := by decide +kernel
theorem dX12_builtOf_4 : decode cX12_builtOf 4 = .ok (.iload_n 3, 1) := by decide +kernel
theorem dX12_builtOf_5 : decode cX12_builtOf 5 = .ok (.aload_n 0, 1) := by decide +kernel
theorem dX12_builtOf_6 : decode cX12_builtOf 6 = .ok (.getfield 95, 3) := by decide +kernel
theorem dX12_builtOf_9 : decode cX12_builtOf 9 = .ok (.if_icmp .ge 33, 3) := by decide +kernel
theorem dX12_builtOf_12 : decode cX12_builtOf 12 = .ok (.iload_n 2, 1) := by decide +kernel
theorem dX12_builtOf_13 : decode cX12_builtOf 13 = .ok (.iload_n 1, 1) := by decide +kernel
theorem dX12_builtOf_14 : decode cX12_builtOf 14 = .ok (.iload_n 3, 1) := by decide +kernel
theorem dX12_builtOf_15 : decode cX12_builtOf 15 = .ok (.invokestatic 292, 3) := by decide +kernel
theorem dX12_builtOf_18 : decode cX12_builtOf 18 = .ok (.ifCond .eq 15, 3) := by decide +kernel
theorem dX12_builtOf_21 : decode cX12_builtOf 21 = .ok (.aload_n 0, 1) := by decide +kernel
theorem dX12_builtOf_22 : decode cX12_builtOf 22 = .ok (.getfield 9, 3) := by decide +kernel
theorem dX12_builtOf_25 : decode cX12_builtOf 25 = .ok (.bipush 21, 2) := by decide +kernel
theorem dX12_builtOf_27 : decode cX12_builtOf 27 = .ok (.iload_n 3, 1) := by decide +kernel
theorem dX12_builtOf_28 : decode cX12_builtOf 28 = .ok (.iadd, 1) := by decide +kernel
theorem dX12_builtOf_29 : decode cX12_builtOf 29 = .ok (.iaload, 1) := by decide +kernel
theorem dX12_builtOf_30 : decode cX12_builtOf 30 = .ok (.goto 4, 3) := by decide +kernel
theorem dX12_builtOf_33 : decode cX12_builtOf 33 = .ok (.iconst 0, 1) := by decide +kernel
theorem dX12_builtOf_34 : decode cX12_builtOf 34 = .ok (.iadd, 1) := by decide +kernel
theorem dX12_builtOf_35 : decode cX12_builtOf 35 = .ok (.istore_n 2, 1) := by decide +kernel
theorem dX12_builtOf_36 : decode cX12_builtOf 36 = .ok (.iinc 3 1, 3) := by decide +kernel
theorem dX12_builtOf_39 : decode cX12_builtOf 39 = .ok (.goto (-35), 3) := by decide +kernel
theorem dX12_builtOf_42 : decode cX12_builtOf 42 = .ok (.iload_n 2, 1) := by decide +kernel
theorem dX12_builtOf_43 : decode cX12_builtOf 43 = .ok (.ireturn, 1) := by decide +kernel
theorem dX12_stones_0 : decode cX12_stones 0 = .ok (.aload_n 0, 1) := by decide +kernel
theorem dX12_stones_1 : decode cX12_stones 1 = .ok (.iconst 0, 1) := by decide +kernel
theorem dX12_stones_2 : decode cX12_stones 2 = .ok (.putfield 88, 3) := by decide +kernel
theorem dX12_stones_5 : decode cX12_stones 5 = .ok (.iload_n 1, 1) := by decide +kernel
theorem dX12_stones_6 : decode cX12_stones 6 = .ok (.iconst 0, 1) := by decide +kernel
theorem dX12_stones_7 : decode cX12_stones 7 = .ok (.sipush 999, 3) := by decide +kernel
theorem dX12_stones_10 : decode cX12_stones 10 = .ok (.invokestatic 98, 3) := by decide +kernel
theorem dX12_stones_13 : decode cX12_stones 13 = .ok (.ifCond .ne 5, 3) := by decide +kernel
theorem dX12_stones_16 : decode cX12_stones 16 = .ok (.iconst (-1), 1) := by decide +kernel
theorem dX12_stones_17 : decode cX12_stones 17 = .ok (.ireturn, 1) := by decide +kernel
theorem dX12_stones_18 : decode cX12_stones 18 = .ok (.iconst (-1), 1) := by decide +kernel
theorem dX12_stones_19 : decode cX12_stones 19 = .ok (.istore_n 2, 1) := by decide +kernel
theorem dX12_stones_20 : decode cX12_stones 20 = .ok (.iconst 0, 1) := by decide +kernel
theorem dX12_stones_21 : decode cX12_stones 21 = .ok (.istore_n 3, 1) := by decide +kernel
theorem dX12_stones_22 : decode cX12_stones 22 = .ok (.iconst 0, 1) := by decide +kernel
theorem dX12_stones_23 : decode cX12_stones 23 = .ok (.istore 4, 2) := by decide +kernel
theorem dX12_stones_25 : decode cX12_stones 25 = .ok (.iload 4, 2) := by decide +kernel
theorem dX12_stones_27 : decode cX12_stones 27 = .ok (.aload_n 0, 1) := by decide +kernel
theorem dX12_stones_28 : decode cX12_stones 28 = .ok (.invokevirtual 301, 3) := by decide +kernel
theorem dX12_stones_31 : decode cX12_stones 31 = .ok (.if_icmp .gt 33, 3) := by decide +kernel
theorem dX12_stones_34 : decode cX12_stones 34 = .ok (.aload_n 0, 1) := by decide +kernel
theorem dX12_stones_35 : decode cX12_stones 35 = .ok (.iload 4, 2) := by decide +kernel
theorem dX12_stones_37 : decode cX12_stones 37 = .ok (.invokevirtual 305, 3) := by decide +kernel
theorem dX12_stones_40 : decode cX12_stones 40 = .ok (.iload_n 1, 1) := by decide +kernel
theorem dX12_stones_41 : decode cX12_stones 41 = .ok (.if_icmp .eq 6, 3) := by decide +kernel
theorem dX12_stones_44 : decode cX12_stones 44 = .ok (.goto 14, 3) := by decide +kernel
theorem dX12_stones_47 : decode cX12_stones 47 = .ok (.aload_n 0, 1) := by decide +kernel
theorem dX12_stones_48 : decode cX12_stones 48 = .ok (.iload_n 2, 1) := by decide +kernel
theorem dX12_stones_49 : decode cX12_stones 49 = .ok (.iload 4, 2) := by decide +kernel
theorem dX12_stones_51 : decode cX12_stones 51 = .ok (.invokevirtual 295, 3) := by decide +kernel
theorem dX12_stones_54 : decode cX12_stones 54 = .ok (.istore_n 2, 1) := by decide +kernel
theorem dX12_stones_55 : decode cX12_stones 55 = .ok (.iinc 3 1, 3) := by decide +kernel
theorem dX12_stones_58 : decode cX12_stones 58 = .ok (.iinc 4 1, 3) := by decide +kernel
theorem dX12_stones_61 : decode cX12_stones 61 = .ok (.goto (-36), 3) := by decide +kernel
theorem dX12_stones_64 : decode cX12_stones 64 = .ok (.iload_n 2, 1) := by decide +kernel
theorem dX12_stones_65 : decode cX12_stones 65 = .ok (.iconst (-1), 1) := by decide +kernel
theorem dX12_stones_66 : decode cX12_stones 66 = .ok (.if_icmp .ne 6, 3) := by decide +kernel
theorem dX12_stones_69 : decode cX12_stones 69 = .ok (.bipush (-2), 2) := by decide +kernel
theorem dX12_stones_71 : decode cX12_stones 71 = .ok (.ireturn, 1) := by decide +kernel
theorem dX12_stones_72 : decode cX12_stones 72 = .ok (.aload_n 0, 1) := by decide +kernel
theorem dX12_stones_73 : decode cX12_stones 73 = .ok (.iload_n 2, 1) := by decide +kernel
theorem dX12_stones_74 : decode cX12_stones 74 = .ok (.invokevirtual 298, 3) := by decide +kernel
theorem dX12_stones_77 : decode cX12_stones 77 = .ok (.pop, 1) := by decide +kernel
theorem dX12_stones_78 : decode cX12_stones 78 = .ok (.aload_n 0, 1) := by decide +kernel
theorem dX12_stones_79 : decode cX12_stones 79 = .ok (.iload_n 3, 1) := by decide +kernel
theorem dX12_stones_80 : decode cX12_stones 80 = .ok (.i2l, 1) := by decide +kernel
theorem dX12_stones_81 : decode cX12_stones 81 = .ok (.invokevirtual 236, 3) := by decide +kernel
theorem dX12_stones_84 : decode cX12_stones 84 = .ok (.iload_n 2, 1) := by decide +kernel
theorem dX12_stones_85 : decode cX12_stones 85 = .ok (.invokestatic 244, 3) := by decide +kernel
theorem dX12_stones_88 : decode cX12_stones 88 = .ok (.ireturn, 1) := by decide +kernel
theorem dX12_pacesOf_0 : decode cX12_pacesOf 0 = .ok (.iconst 0, 1) := by decide +kernel
theorem dX12_pacesOf_1 : decode cX12_pacesOf 1 = .ok (.istore_n 2, 1) := by decide +kernel
theorem dX12_pacesOf_2 : decode cX12_pacesOf 2 = .ok (.iconst 0, 1) := by decide +kernel
theorem dX12_pacesOf_3 : decode cX12_pacesOf 3 = .ok (.istore_n 3, 1) := by decide +kernel
theorem dX12_pacesOf_4 : decode cX12_pacesOf 4 = .ok (.iload_n 3, 1) := by decide +kernel
theorem dX12_pacesOf_5 : decode cX12_pacesOf 5 = .ok (.aload_n 0, 1) := by decide +kernel
theorem dX12_pacesOf_6 : decode cX12_pacesOf 6 = .ok (.getfield 95, 3) := by decide +kernel
theorem dX12_pacesOf_9 : decode cX12_pacesOf 9 = .ok (.if_icmp .ge 30, 3) := by decide +kernel
theorem dX12_pacesOf_12 : decode cX12_pacesOf 12 = .ok (.iload_n 2, 1) := by decide +kernel
theorem dX12_pacesOf_13 : decode cX12_pacesOf 13 = .ok (.iload_n 1, 1) := by decide +kernel
theorem dX12_pacesOf_14 : decode cX12_pacesOf 14 = .ok (.iload_n 3, 1) := by decide +kernel
theorem dX12_pacesOf_15 : decode cX12_pacesOf 15 = .ok (.invokestatic 292, 3) := by decide +kernel
theorem dX12_pacesOf_18 : decode cX12_pacesOf 18 = .ok (.ifCond .eq 12, 3) := by decide +kernel
theorem dX12_pacesOf_21 : decode cX12_pacesOf 21 = .ok (.aload_n 0, 1) := by decide +kernel
theorem dX12_pacesOf_22 : decode cX12_pacesOf 22 = .ok (.getfield 13, 3) := by decide +kernel
theorem dX12_pacesOf_25 : decode cX12_pacesOf 25 = .ok (.iload_n 3, 1) := by decide +kernel
theorem dX12_pacesOf_26 : decode cX12_pacesOf 26 = .ok (.iaload, 1) := by decide +kernel
theorem dX12_pacesOf_27 : decode cX12_pacesOf 27 = .ok (.goto 4, 3) := by decide +kernel
theorem dX12_pacesOf_30 : decode cX12_pacesOf 30 = .ok (.iconst 0, 1) := by decide +kernel
theorem dX12_pacesOf_31 : decode cX12_pacesOf 31 = .ok (.iadd, 1) := by decide +kernel
theorem dX12_pacesOf_32 : decode cX12_pacesOf 32 = .ok (.istore_n 2, 1) := by decide +kernel
theorem dX12_pacesOf_33 : decode cX12_pacesOf 33 = .ok (.iinc 3 1, 3) := by decide +kernel
theorem dX12_pacesOf_36 : decode cX12_pacesOf 36 = .ok (.goto (-32), 3) := by decide +kernel
theorem dX12_pacesOf_39 : decode cX12_pacesOf 39 = .ok (.iload_n 2, 1) := by decide +kernel
theorem dX12_pacesOf_40 : decode cX12_pacesOf 40 = .ok (.ireturn, 1) := by decide +kernel
theorem dX12_differing_0 : decode cX12_differing 0 = .ok (.aload_n 0, 1) := by decide +kernel
theorem dX12_differing_1 : decode cX12_differing 1 = .ok (.invokevirtual 216, 3) := by decide +kernel
theorem dX12_differing_4 : decode cX12_differing 4 = .ok (.iconst 2, 1) := by decide +kernel
theorem dX12_differing_5 : decode cX12_differing 5 = .ok (.aload_n 0, 1) := by decide +kernel
theorem dX12_differing_6 : decode cX12_differing 6 = .ok (.iload_n 1, 1) := by decide +kernel
theorem dX12_differing_7 : decode cX12_differing 7 = .ok (.invokevirtual 308, 3) := by decide +kernel
theorem dX12_differing_10 : decode cX12_differing 10 = .ok (.imul, 1) := by decide +kernel
theorem dX12_differing_11 : decode cX12_differing 11 = .ok (.isub, 1) := by decide +kernel
theorem dX12_differing_12 : decode cX12_differing 12 = .ok (.invokestatic 282, 3) := by decide +kernel
theorem dX12_differing_15 : decode cX12_differing 15 = .ok (.ireturn, 1) := by decide +kernel
theorem dX12_parties_0 : decode cX12_parties 0 = .ok (.aload_n 0, 1) := by decide +kernel
theorem dX12_parties_1 : decode cX12_parties 1 = .ok (.iconst 0, 1) := by decide +kernel
theorem dX12_parties_2 : decode cX12_parties 2 = .ok (.putfield 88, 3) := by decide +kernel
theorem dX12_parties_5 : decode cX12_parties 5 = .ok (.iconst 0, 1) := by decide +kernel
theorem dX12_parties_6 : decode cX12_parties 6 = .ok (.istore_n 1, 1) := by decide +kernel
theorem dX12_parties_7 : decode cX12_parties 7 = .ok (.iconst 1, 1) := by decide +kernel
theorem dX12_parties_8 : decode cX12_parties 8 = .ok (.istore_n 2, 1) := by decide +kernel
theorem dX12_parties_9 : decode cX12_parties 9 = .ok (.iload_n 2, 1) := by decide +kernel
theorem dX12_parties_10 : decode cX12_parties 10 = .ok (.aload_n 0, 1) := by decide +kernel
theorem dX12_parties_11 : decode cX12_parties 11 = .ok (.invokevirtual 301, 3) := by decide +kernel
theorem dX12_parties_14 : decode cX12_parties 14 = .ok (.if_icmp .gt 28, 3) := by decide +kernel
theorem dX12_parties_17 : decode cX12_parties 17 = .ok (.aload_n 0, 1) := by decide +kernel
theorem dX12_parties_18 : decode cX12_parties 18 = .ok (.iload_n 2, 1) := by decide +kernel
theorem dX12_parties_19 : decode cX12_parties 19 = .ok (.invokevirtual 311, 3) := by decide +kernel
theorem dX12_parties_22 : decode cX12_parties 22 = .ok (.aload_n 0, 1) := by decide +kernel
theorem dX12_parties_23 : decode cX12_parties 23 = .ok (.iload_n 1, 1) := by decide +kernel
theorem dX12_parties_24 : decode cX12_parties 24 = .ok (.invokevirtual 311, 3) := by decide +kernel
theorem dX12_parties_27 : decode cX12_parties 27 = .ok (.if_icmp .ge 7, 3) := by decide +kernel
theorem dX12_parties_30 : decode cX12_parties 30 = .ok (.iload_n 2, 1) := by decide +kernel
theorem dX12_parties_31 : decode cX12_parties 31 = .ok (.goto 4, 3) := by decide +kernel
theorem dX12_parties_34 : decode cX12_parties 34 = .ok (.iload_n 1, 1) := by decide +kernel
theorem dX12_parties_35 : decode cX12_parties 35 = .ok (.istore_n 1, 1) := by decide +kernel
theorem dX12_parties_36 : decode cX12_parties 36 = .ok (.iinc 2 1, 3) := by decide +kernel
theorem dX12_parties_39 : decode cX12_parties 39 = .ok (.goto (-30), 3) := by decide +kernel
theorem dX12_parties_42 : decode cX12_parties 42 = .ok (.aload_n 0, 1) := by decide +kernel
theorem dX12_parties_43 : decode cX12_parties 43 = .ok (.iconst 0, 1) := by decide +kernel
theorem dX12_parties_44 : decode cX12_parties 44 = .ok (.putfield 92, 3) := by decide +kernel
theorem dX12_parties_47 : decode cX12_parties 47 = .ok (.aload_n 0, 1) := by decide +kernel
theorem dX12_parties_48 : decode cX12_parties 48 = .ok (.iload_n 1, 1) := by decide +kernel
theorem dX12_parties_49 : decode cX12_parties 49 = .ok (.i2l, 1) := by decide +kernel
theorem dX12_parties_50 : decode cX12_parties 50 = .ok (.invokevirtual 236, 3) := by decide +kernel
theorem dX12_parties_53 : decode cX12_parties 53 = .ok (.aload_n 0, 1) := by decide +kernel
theorem dX12_parties_54 : decode cX12_parties 54 = .ok (.aload_n 0, 1) := by decide +kernel
theorem dX12_parties_55 : decode cX12_parties 55 = .ok (.iload_n 1, 1) := by decide +kernel
theorem dX12_parties_56 : decode cX12_parties 56 = .ok (.invokevirtual 308, 3) := by decide +kernel
theorem dX12_parties_59 : decode cX12_parties 59 = .ok (.i2l, 1) := by decide +kernel
theorem dX12_parties_60 : decode cX12_parties 60 = .ok (.invokevirtual 236, 3) := by decide +kernel
theorem dX12_parties_63 : decode cX12_parties 63 = .ok (.aload_n 0, 1) := by decide +kernel
theorem dX12_parties_64 : decode cX12_parties 64 = .ok (.iload_n 1, 1) := by decide +kernel
theorem dX12_parties_65 : decode cX12_parties 65 = .ok (.invokevirtual 311, 3) := by decide +kernel
theorem dX12_parties_68 : decode cX12_parties 68 = .ok (.ireturn, 1) := by decide +kernel
theorem dX12_heard_0 : decode cX12_heard 0 = .ok (.aload_n 0, 1) := by decide +kernel
theorem dX12_heard_1 : decode cX12_heard 1 = .ok (.iconst 0, 1) := by decide +kernel
theorem dX12_heard_2 : decode cX12_heard 2 = .ok (.putfield 88, 3) := by decide +kernel
theorem dX12_heard_5 : decode cX12_heard 5 = .ok (.iload_n 1, 1) := by decide +kernel
theorem dX12_heard_6 : decode cX12_heard 6 = .ok (.iconst 1, 1) := by decide +kernel
theorem dX12_heard_7 : decode cX12_heard 7 = .ok (.if_icmp .ne 8, 3) := by decide +kernel
theorem dX12_heard_10 : decode cX12_heard 10 = .ok (.bipush 99, 2) := by decide +kernel
theorem dX12_heard_12 : decode cX12_heard 12 = .ok (.goto 23, 3) := by decide +kernel
theorem dX12_heard_15 : decode cX12_heard 15 = .ok (.iload_n 1, 1) := by decide +kernel
theorem dX12_heard_16 : decode cX12_heard 16 = .ok (.iconst 2, 1) := by decide +kernel
theorem dX12_heard_17 : decode cX12_heard 17 = .ok (.if_icmp .ne 7, 3) := by decide +kernel
theorem dX12_heard_20 : decode cX12_heard 20 = .ok (.iconst 2, 1) := by decide +kernel
theorem dX12_heard_21 : decode cX12_heard 21 = .ok (.goto 14, 3) := by decide +kernel
theorem dX12_heard_24 : decode cX12_heard 24 = .ok (.iload_n 1, 1) := by decide +kernel
theorem dX12_heard_25 : decode cX12_heard 25 = .ok (.iconst 4, 1) := by decide +kernel
theorem dX12_heard_26 : decode cX12_heard 26 = .ok (.if_icmp .ne 7, 3) := by decide +kernel
theorem dX12_heard_29 : decode cX12_heard 29 = .ok (.iconst 1, 1) := by decide +kernel
theorem dX12_heard_30 : decode cX12_heard 30 = .ok (.goto 5, 3) := by decide +kernel
theorem dX12_heard_33 : decode cX12_heard 33 = .ok (.bipush 9, 2) := by decide +kernel
theorem dX12_heard_35 : decode cX12_heard 35 = .ok (.istore_n 3, 1) := by decide +kernel
theorem dX12_heard_36 : decode cX12_heard 36 = .ok (.iload_n 1, 1) := by decide +kernel
theorem dX12_heard_37 : decode cX12_heard 37 = .ok (.iconst 0, 1) := by decide +kernel
theorem dX12_heard_38 : decode cX12_heard 38 = .ok (.iconst 4, 1) := by decide +kernel
theorem dX12_heard_39 : decode cX12_heard 39 = .ok (.invokestatic 98, 3) := by decide +kernel
theorem dX12_heard_42 : decode cX12_heard 42 = .ok (.ifCond .eq 21, 3) := by decide +kernel
theorem dX12_heard_45 : decode cX12_heard 45 = .ok (.iload_n 2, 1) := by decide +kernel
theorem dX12_heard_46 : decode cX12_heard 46 = .ok (.iconst 0, 1) := by decide +kernel
theorem dX12_heard_47 : decode cX12_heard 47 = .ok (.iload_n 3, 1) := by decide +kernel
theorem dX12_heard_48 : decode cX12_heard 48 = .ok (.invokestatic 98, 3) := by decide +kernel
theorem dX12_heard_51 : decode cX12_heard 51 = .ok (.ifCond .eq 12, 3) := by decide +kernel
theorem dX12_heard_54 : decode cX12_heard 54 = .ok (.aload_n 0, 1) := by decide +kernel
theorem dX12_heard_55 : decode cX12_heard 55 = .ok (.getfield 314, 3) := by decide +kernel
theorem dX12_heard_58 : decode cX12_heard 58 = .ok (.bipush 12, 2) := by decide +kernel
theorem dX12_heard_60 : decode cX12_heard 60 = .ok (.if_icmp .ne 5, 3) := by decide +kernel
theorem dX12_heard_63 : decode cX12_heard 63 = .ok (.iconst (-1), 1) := by decide +kernel
theorem dX12_heard_64 : decode cX12_heard 64 = .ok (.ireturn, 1) := by decide +kernel
theorem dX12_heard_65 : decode cX12_heard 65 = .ok (.aload_n 0, 1) := by decide +kernel
theorem dX12_heard_66 : decode cX12_heard 66 = .ok (.getfield 63, 3) := by decide +kernel
theorem dX12_heard_69 : decode cX12_heard 69 = .ok (.aload_n 0, 1) := by decide +kernel
theorem dX12_heard_70 : decode cX12_heard 70 = .ok (.getfield 314, 3) := by decide +kernel
theorem dX12_heard_73 : decode cX12_heard 73 = .ok (.iload_n 1, 1) := by decide +kernel
theorem dX12_heard_74 : decode cX12_heard 74 = .ok (.iastore, 1) := by decide +kernel
theorem dX12_heard_75 : decode cX12_heard 75 = .ok (.aload_n 0, 1) := by decide +kernel
theorem dX12_heard_76 : decode cX12_heard 76 = .ok (.getfield 66, 3) := by decide +kernel
theorem dX12_heard_79 : decode cX12_heard 79 = .ok (.aload_n 0, 1) := by decide +kernel
theorem dX12_heard_80 : decode cX12_heard 80 = .ok (.getfield 314, 3) := by decide +kernel
theorem dX12_heard_83 : decode cX12_heard 83 = .ok (.iload_n 2, 1) := by decide +kernel
theorem dX12_heard_84 : decode cX12_heard 84 = .ok (.iastore, 1) := by decide +kernel
theorem dX12_heard_85 : decode cX12_heard 85 = .ok (.aload_n 0, 1) := by decide +kernel
theorem dX12_heard_86 : decode cX12_heard 86 = .ok (.dup, 1) := by decide +kernel
theorem dX12_heard_87 : decode cX12_heard 87 = .ok (.getfield 314, 3) := by decide +kernel
theorem dX12_heard_90 : decode cX12_heard 90 = .ok (.iconst 1, 1) := by decide +kernel
theorem dX12_heard_91 : decode cX12_heard 91 = .ok (.iadd, 1) := by decide +kernel
theorem dX12_heard_92 : decode cX12_heard 92 = .ok (.putfield 314, 3) := by decide +kernel
theorem dX12_heard_95 : decode cX12_heard 95 = .ok (.aload_n 0, 1) := by decide +kernel
theorem dX12_heard_96 : decode cX12_heard 96 = .ok (.getfield 314, 3) := by decide +kernel
theorem dX12_heard_99 : decode cX12_heard 99 = .ok (.ireturn, 1) := by decide +kernel
theorem dX12_forget_0 : decode cX12_forget 0 = .ok (.aload_n 0, 1) := by decide +kernel
theorem dX12_forget_1 : decode cX12_forget 1 = .ok (.iconst 0, 1) := by decide +kernel
theorem dX12_forget_2 : decode cX12_forget 2 = .ok (.putfield 88, 3) := by decide +kernel
theorem dX12_forget_5 : decode cX12_forget 5 = .ok (.aload_n 0, 1) := by decide +kernel
theorem dX12_forget_6 : decode cX12_forget 6 = .ok (.getfield 314, 3) := by decide +kernel
theorem dX12_forget_9 : decode cX12_forget 9 = .ok (.istore_n 1, 1) := by decide +kernel
theorem dX12_forget_10 : decode cX12_forget 10 = .ok (.aload_n 0, 1) := by decide +kernel
theorem dX12_forget_11 : decode cX12_forget 11 = .ok (.iconst 0, 1) := by decide +kernel
theorem dX12_forget_12 : decode cX12_forget 12 = .ok (.putfield 314, 3) := by decide +kernel
theorem dX12_forget_15 : decode cX12_forget 15 = .ok (.iload_n 1, 1) := by decide +kernel
theorem dX12_forget_16 : decode cX12_forget 16 = .ok (.ireturn, 1) := by decide +kernel
theorem dX12_isSo_0 : decode cX12_isSo 0 = .ok (.iload_n 2, 1) := by decide +kernel
theorem dX12_isSo_1 : decode cX12_isSo 1 = .ok (.tableswitch 101 0 3 #[31, 47, 66, 85], 31) := by decide +kernel
theorem dX12_isSo_32 : decode cX12_isSo 32 = .ok (.aload_n 0, 1) := by decide +kernel
theorem dX12_isSo_33 : decode cX12_isSo 33 = .ok (.getfield 13, 3) := by decide +kernel
theorem dX12_isSo_36 : decode cX12_isSo 36 = .ok (.iload_n 1, 1) := by decide +kernel
theorem dX12_isSo_37 : decode cX12_isSo 37 = .ok (.iaload, 1) := by decide +kernel
theorem dX12_isSo_38 : decode cX12_isSo 38 = .ok (.iload_n 3, 1) := by decide +kernel
theorem dX12_isSo_39 : decode cX12_isSo 39 = .ok (.if_icmp .lt 7, 3) := by decide +kernel
theorem dX12_isSo_42 : decode cX12_isSo 42 = .ok (.iconst 1, 1) := by decide +kernel
theorem dX12_isSo_43 : decode cX12_isSo 43 = .ok (.goto 4, 3) := by decide +kernel
theorem dX12_isSo_46 : decode cX12_isSo 46 = .ok (.iconst 0, 1) := by decide +kernel
theorem dX12_isSo_47 : decode cX12_isSo 47 = .ok (.ireturn, 1) := by decide +kernel
theorem dX12_isSo_48 : decode cX12_isSo 48 = .ok (.aload_n 0, 1) := by decide +kernel
theorem dX12_isSo_49 : decode cX12_isSo 49 = .ok (.getfield 9, 3) := by decide +kernel
theorem dX12_isSo_52 : decode cX12_isSo 52 = .ok (.bipush 21, 2) := by decide +kernel
theorem dX12_isSo_54 : decode cX12_isSo 54 = .ok (.iload_n 1, 1) := by decide +kernel
theorem dX12_isSo_55 : decode cX12_isSo 55 = .ok (.iadd, 1) := by decide +kernel
theorem dX12_isSo_56 : decode cX12_isSo 56 = .ok (.iaload, 1) := by decide +kernel
theorem dX12_isSo_57 : decode cX12_isSo 57 = .ok (.iload_n 3, 1) := by decide +kernel
theorem dX12_isSo_58 : decode cX12_isSo 58 = .ok (.if_icmp .lt 7, 3) := by decide +kernel
theorem dX12_isSo_61 : decode cX12_isSo 61 = .ok (.iconst 1, 1) := by decide +kernel
theorem dX12_isSo_62 : decode cX12_isSo 62 = .ok (.goto 4, 3) := by decide +kernel
theorem dX12_isSo_65 : decode cX12_isSo 65 = .ok (.iconst 0, 1) := by decide +kernel
theorem dX12_isSo_66 : decode cX12_isSo 66 = .ok (.ireturn, 1) := by decide +kernel
theorem dX12_isSo_67 : decode cX12_isSo 67 = .ok (.aload_n 0, 1) := by decide +kernel
theorem dX12_isSo_68 : decode cX12_isSo 68 = .ok (.getfield 9, 3) := by decide +kernel
theorem dX12_isSo_71 : decode cX12_isSo 71 = .ok (.bipush 7, 2) := by decide +kernel
theorem dX12_isSo_73 : decode cX12_isSo 73 = .ok (.iload_n 1, 1) := by decide +kernel
theorem dX12_isSo_74 : decode cX12_isSo 74 = .ok (.iadd, 1) := by decide +kernel
theorem dX12_isSo_75 : decode cX12_isSo 75 = .ok (.iaload, 1) := by decide +kernel
theorem dX12_isSo_76 : decode cX12_isSo 76 = .ok (.iload_n 3, 1) := by decide +kernel
theorem dX12_isSo_77 : decode cX12_isSo 77 = .ok (.if_icmp .ne 7, 3) := by decide +kernel
theorem dX12_isSo_80 : decode cX12_isSo 80 = .ok (.iconst 1, 1) := by decide +kernel
theorem dX12_isSo_81 : decode cX12_isSo 81 = .ok (.goto 4, 3) := by decide +kernel
theorem dX12_isSo_84 : decode cX12_isSo 84 = .ok (.iconst 0, 1) := by decide +kernel
theorem dX12_isSo_85 : decode cX12_isSo 85 = .ok (.ireturn, 1) := by decide +kernel
theorem dX12_isSo_86 : decode cX12_isSo 86 = .ok (.aload_n 0, 1) := by decide +kernel
theorem dX12_isSo_87 : decode cX12_isSo 87 = .ok (.getfield 9, 3) := by decide +kernel
theorem dX12_isSo_90 : decode cX12_isSo 90 = .ok (.iload_n 1, 1) := by decide +kernel
theorem dX12_isSo_91 : decode cX12_isSo 91 = .ok (.iaload, 1) := by decide +kernel
theorem dX12_isSo_92 : decode cX12_isSo 92 = .ok (.iload_n 3, 1) := by decide +kernel
theorem dX12_isSo_93 : decode cX12_isSo 93 = .ok (.if_icmp .lt 7, 3) := by decide +kernel
theorem dX12_isSo_96 : decode cX12_isSo 96 = .ok (.iconst 1, 1) := by decide +kernel
theorem dX12_isSo_97 : decode cX12_isSo 97 = .ok (.goto 4, 3) := by decide +kernel
theorem dX12_isSo_100 : decode cX12_isSo 100 = .ok (.iconst 0, 1) := by decide +kernel
theorem dX12_isSo_101 : decode cX12_isSo 101 = .ok (.ireturn, 1) := by decide +kernel
theorem dX12_isSo_102 : decode cX12_isSo 102 = .ok (.aload_n 0, 1) := by decide +kernel
theorem dX12_isSo_103 : decode cX12_isSo 103 = .ok (.getfield 9, 3) := by decide +kernel
theorem dX12_isSo_106 : decode cX12_isSo 106 = .ok (.bipush 14, 2) := by decide +kernel
theorem dX12_isSo_108 : decode cX12_isSo 108 = .ok (.iload_n 1, 1) := by decide +kernel
theorem dX12_isSo_109 : decode cX12_isSo 109 = .ok (.iadd, 1) := by decide +kernel
theorem dX12_isSo_110 : decode cX12_isSo 110 = .ok (.iaload, 1) := by decide +kernel
theorem dX12_isSo_111 : decode cX12_isSo 111 = .ok (.ifCond .le 7, 3) := by decide +kernel
theorem dX12_isSo_114 : decode cX12_isSo 114 = .ok (.iconst 1, 1) := by decide +kernel
theorem dX12_isSo_115 : decode cX12_isSo 115 = .ok (.goto 4, 3) := by decide +kernel
theorem dX12_isSo_118 : decode cX12_isSo 118 = .ok (.iconst 0, 1) := by decide +kernel
theorem dX12_isSo_119 : decode cX12_isSo 119 = .ok (.iload_n 3, 1) := by decide +kernel
theorem dX12_isSo_120 : decode cX12_isSo 120 = .ok (.iconst 1, 1) := by decide +kernel
theorem dX12_isSo_121 : decode cX12_isSo 121 = .ok (.if_icmp .ne 7, 3) := by decide +kernel
theorem dX12_isSo_124 : decode cX12_isSo 124 = .ok (.iconst 1, 1) := by decide +kernel
theorem dX12_isSo_125 : decode cX12_isSo 125 = .ok (.goto 4, 3) := by decide +kernel
theorem dX12_isSo_128 : decode cX12_isSo 128 = .ok (.iconst 0, 1) := by decide +kernel
theorem dX12_isSo_129 : decode cX12_isSo 129 = .ok (.if_icmp .ne 7, 3) := by decide +kernel
theorem dX12_isSo_132 : decode cX12_isSo 132 = .ok (.iconst 1, 1) := by decide +kernel
theorem dX12_isSo_133 : decode cX12_isSo 133 = .ok (.goto 4, 3) := by decide +kernel
theorem dX12_isSo_136 : decode cX12_isSo 136 = .ok (.iconst 0, 1) := by decide +kernel
theorem dX12_isSo_137 : decode cX12_isSo 137 = .ok (.ireturn, 1) := by decide +kernel
theorem dX12_fitting_0 : decode cX12_fitting 0 = .ok (.iconst 0, 1) := by decide +kernel
theorem dX12_fitting_1 : decode cX12_fitting 1 = .ok (.istore_n 1, 1) := by decide +kernel
theorem dX12_fitting_2 : decode cX12_fitting 2 = .ok (.iconst 0, 1) := by decide +kernel
theorem dX12_fitting_3 : decode cX12_fitting 3 = .ok (.istore_n 2, 1) := by decide +kernel
theorem dX12_fitting_4 : decode cX12_fitting 4 = .ok (.iload_n 2, 1) := by decide +kernel
theorem dX12_fitting_5 : decode cX12_fitting 5 = .ok (.aload_n 0, 1) := by decide +kernel
theorem dX12_fitting_6 : decode cX12_fitting 6 = .ok (.getfield 95, 3) := by decide +kernel
theorem dX12_fitting_9 : decode cX12_fitting 9 = .ok (.if_icmp .ge 75, 3) := by decide +kernel
theorem dX12_fitting_12 : decode cX12_fitting 12 = .ok (.iconst 1, 1) := by decide +kernel
theorem dX12_fitting_13 : decode cX12_fitting 13 = .ok (.istore_n 3, 1) := by decide +kernel
theorem dX12_fitting_14 : decode cX12_fitting 14 = .ok (.iconst 0, 1) := by decide +kernel
theorem dX12_fitting_15 : decode cX12_fitting 15 = .ok (.istore 4, 2) := by decide +kernel
theorem dX12_fitting_17 : decode cX12_fitting 17 = .ok (.iload 4, 2) := by decide +kernel
theorem dX12_fitting_19 : decode cX12_fitting 19 = .ok (.aload_n 0, 1) := by decide +kernel
theorem dX12_fitting_20 : decode cX12_fitting 20 = .ok (.getfield 314, 3) := by decide +kernel
theorem dX12_fitting_23 : decode cX12_fitting 23 = .ok (.if_icmp .ge 41, 3) := by decide +kernel
theorem dX12_fitting_26 : decode cX12_fitting 26 = .ok (.iload_n 3, 1) := by decide +kernel
theorem dX12_fitting_27 : decode cX12_fitting 27 = .ok (.ifCond .eq 29, 3) := by decide +kernel
theorem dX12_fitting_30 : decode cX12_fitting 30 = .ok (.aload_n 0, 1) := by decide +kernel
theorem dX12_fitting_31 : decode cX12_fitting 31 = .ok (.iload_n 2, 1) := by decide +kernel
theorem dX12_fitting_32 : decode cX12_fitting 32 = .ok (.aload_n 0, 1) := by decide +kernel
theorem dX12_fitting_33 : decode cX12_fitting 33 = .ok (.getfield 63, 3) := by decide +kernel
theorem dX12_fitting_36 : decode cX12_fitting 36 = .ok (.iload 4, 2) := by decide +kernel
theorem dX12_fitting_38 : decode cX12_fitting 38 = .ok (.iaload, 1) := by decide +kernel
theorem dX12_fitting_39 : decode cX12_fitting 39 = .ok (.aload_n 0, 1) := by decide +kernel
theorem dX12_fitting_40 : decode cX12_fitting 40 = .ok (.getfield 66, 3) := by decide +kernel
theorem dX12_fitting_43 : decode cX12_fitting 43 = .ok (.iload 4, 2) := by decide +kernel
theorem dX12_fitting_45 : decode cX12_fitting 45 = .ok (.iaload, 1) := by decide +kernel
theorem dX12_fitting_46 : decode cX12_fitting 46 = .ok (.invokevirtual 317, 3) := by decide +kernel
theorem dX12_fitting_49 : decode cX12_fitting 49 = .ok (.ifCond .eq 7, 3) := by decide +kernel
theorem dX12_fitting_52 : decode cX12_fitting 52 = .ok (.iconst 1, 1) := by decide +kernel
theorem dX12_fitting_53 : decode cX12_fitting 53 = .ok (.goto 4, 3) := by decide +kernel
theorem dX12_fitting_56 : decode cX12_fitting 56 = .ok (.iconst 0, 1) := by decide +kernel
theorem dX12_fitting_57 : decode cX12_fitting 57 = .ok (.istore_n 3, 1) := by decide +kernel
theorem dX12_fitting_58 : decode cX12_fitting 58 = .ok (.iinc 4 1, 3) := by decide +kernel
theorem dX12_fitting_61 : decode cX12_fitting 61 = .ok (.goto (-44), 3) := by decide +kernel
theorem dX12_fitting_64 : decode cX12_fitting 64 = .ok (.iload_n 1, 1) := by decide +kernel
theorem dX12_fitting_65 : decode cX12_fitting 65 = .ok (.iload_n 3, 1) := by decide +kernel
theorem dX12_fitting_66 : decode cX12_fitting 66 = .ok (.ifCond .eq 9, 3) := by decide +kernel
theorem dX12_fitting_69 : decode cX12_fitting 69 = .ok (.iconst 1, 1) := by decide +kernel
theorem dX12_fitting_70 : decode cX12_fitting 70 = .ok (.iload_n 2, 1) := by decide +kernel
theorem dX12_fitting_71 : decode cX12_fitting 71 = .ok (.ishl, 1) := by decide +kernel
theorem dX12_fitting_72 : decode cX12_fitting 72 = .ok (.goto 4, 3) := by decide +kernel
theorem dX12_fitting_75 : decode cX12_fitting 75 = .ok (.iconst 0, 1) := by decide +kernel
theorem dX12_fitting_76 : decode cX12_fitting 76 = .ok (.ior, 1) := by decide +kernel
theorem dX12_fitting_77 : decode cX12_fitting 77 = .ok (.istore_n 1, 1) := by decide +kernel
theorem dX12_fitting_78 : decode cX12_fitting 78 = .ok (.iinc 2 1, 3) := by decide +kernel
theorem dX12_fitting_81 : decode cX12_fitting 81 = .ok (.goto (-77), 3) := by decide +kernel
theorem dX12_fitting_84 : decode cX12_fitting 84 = .ok (.iload_n 1, 1) := by decide +kernel
theorem dX12_fitting_85 : decode cX12_fitting 85 = .ok (.ireturn, 1) := by decide +kernel
theorem dX12_fits_0 : decode cX12_fits 0 = .ok (.aload_n 0, 1) := by decide +kernel
theorem dX12_fits_1 : decode cX12_fits 1 = .ok (.iconst 0, 1) := by decide +kernel
theorem dX12_fits_2 : decode cX12_fits 2 = .ok (.putfield 88, 3) := by decide +kernel
theorem dX12_fits_5 : decode cX12_fits 5 = .ok (.aload_n 0, 1) := by decide +kernel
theorem dX12_fits_6 : decode cX12_fits 6 = .ok (.invokevirtual 320, 3) := by decide +kernel
theorem dX12_fits_9 : decode cX12_fits 9 = .ok (.istore_n 1, 1) := by decide +kernel
theorem dX12_fits_10 : decode cX12_fits 10 = .ok (.aload_n 0, 1) := by decide +kernel
theorem dX12_fits_11 : decode cX12_fits 11 = .ok (.iconst 0, 1) := by decide +kernel
theorem dX12_fits_12 : decode cX12_fits 12 = .ok (.putfield 92, 3) := by decide +kernel
theorem dX12_fits_15 : decode cX12_fits 15 = .ok (.aload_n 0, 1) := by decide +kernel
theorem dX12_fits_16 : decode cX12_fits 16 = .ok (.iload_n 1, 1) := by decide +kernel
theorem dX12_fits_17 : decode cX12_fits 17 = .ok (.invokestatic 244, 3) := by decide +kernel
theorem dX12_fits_20 : decode cX12_fits 20 = .ok (.i2l, 1) := by decide +kernel
theorem dX12_fits_21 : decode cX12_fits 21 = .ok (.invokevirtual 236, 3) := by decide +kernel
theorem dX12_fits_24 : decode cX12_fits 24 = .ok (.iload_n 1, 1) := by decide +kernel
theorem dX12_fits_25 : decode cX12_fits 25 = .ok (.ireturn, 1) := by decide +kernel
theorem dX12_asks_0 : decode cX12_asks 0 = .ok (.aload_n 0, 1) := by decide +kernel
theorem dX12_asks_1 : decode cX12_asks 1 = .ok (.iconst 0, 1) := by decide +kernel
theorem dX12_asks_2 : decode cX12_asks 2 = .ok (.putfield 88, 3) := by decide +kernel
theorem dX12_asks_5 : decode cX12_asks 5 = .ok (.aload_n 0, 1) := by decide +kernel
theorem dX12_asks_6 : decode cX12_asks 6 = .ok (.invokevirtual 320, 3) := by decide +kernel
theorem dX12_asks_9 : decode cX12_asks 9 = .ok (.istore_n 1, 1) := by decide +kernel
theorem dX12_asks_10 : decode cX12_asks 10 = .ok (.iload_n 1, 1) := by decide +kernel
theorem dX12_asks_11 : decode cX12_asks 11 = .ok (.ifCond .ne 6, 3) := by decide +kernel
theorem dX12_asks_14 : decode cX12_asks 14 = .ok (.bipush (-2), 2) := by decide +kernel
theorem dX12_asks_16 : decode cX12_asks 16 = .ok (.ireturn, 1) := by decide +kernel
theorem dX12_asks_17 : decode cX12_asks 17 = .ok (.iconst (-1), 1) := by decide +kernel
theorem dX12_asks_18 : decode cX12_asks 18 = .ok (.istore_n 2, 1) := by decide +kernel
theorem dX12_asks_19 : decode cX12_asks 19 = .ok (.ldc_w 304, 3) := by decide +kernel
theorem dX12_asks_22 : decode cX12_asks 22 = .ok (.istore_n 3, 1) := by decide +kernel
theorem dX12_asks_23 : decode cX12_asks 23 = .ok (.iconst 0, 1) := by decide +kernel
theorem dX12_asks_24 : decode cX12_asks 24 = .ok (.istore 4, 2) := by decide +kernel
theorem dX12_asks_26 : decode cX12_asks 26 = .ok (.iload 4, 2) := by decide +kernel
theorem dX12_asks_28 : decode cX12_asks 28 = .ok (.bipush 42, 2) := by decide +kernel
theorem dX12_asks_30 : decode cX12_asks 30 = .ok (.if_icmp .ge 124, 3) := by decide +kernel
theorem dX12_asks_33 : decode cX12_asks 33 = .ok (.iload 4, 2) := by decide +kernel
theorem dX12_asks_35 : decode cX12_asks 35 = .ok (.bipush 10, 2) := by decide +kernel
theorem dX12_asks_37 : decode cX12_asks 37 = .ok (.bipush 19, 2) := by decide +kernel
theorem dX12_asks_39 : decode cX12_asks 39 = .ok (.invokestatic 98, 3) := by decide +kernel
theorem dX12_asks_42 : decode cX12_asks 42 = .ok (.ifCond .ne 106, 3) := by decide +kernel
theorem dX12_asks_45 : decode cX12_asks 45 = .ok (.iload 4, 2) := by decide +kernel
theorem dX12_asks_47 : decode cX12_asks 47 = .ok (.bipush 23, 2) := by decide +kernel
theorem dX12_asks_49 : decode cX12_asks 49 = .ok (.bipush 29, 2) := by decide +kernel
theorem dX12_asks_51 : decode cX12_asks 51 = .ok (.invokestatic 98, 3) := by decide +kernel
theorem dX12_asks_54 : decode cX12_asks 54 = .ok (.ifCond .eq 6, 3) := by decide +kernel
theorem dX12_asks_57 : decode cX12_asks 57 = .ok (.goto 91, 3) := by decide +kernel
theorem dX12_asks_60 : decode cX12_asks 60 = .ok (.iconst 0, 1) := by decide +kernel
theorem dX12_asks_61 : decode cX12_asks 61 = .ok (.istore 5, 2) := by decide +kernel
theorem dX12_asks_63 : decode cX12_asks 63 = .ok (.iconst 0, 1) := by decide +kernel
theorem dX12_asks_64 : decode cX12_asks 64 = .ok (.istore 6, 2) := by decide +kernel
theorem dX12_asks_66 : decode cX12_asks 66 = .ok (.iload 6, 2) := by decide +kernel
theorem dX12_asks_68 : decode cX12_asks 68 = .ok (.aload_n 0, 1) := by decide +kernel
theorem dX12_asks_69 : decode cX12_asks 69 = .ok (.getfield 95, 3) := by decide +kernel
theorem dX12_asks_72 : decode cX12_asks 72 = .ok (.if_icmp .ge 47, 3) := by decide +kernel
theorem dX12_asks_75 : decode cX12_asks 75 = .ok (.iload 5, 2) := by decide +kernel
theorem dX12_asks_77 : decode cX12_asks 77 = .ok (.iload_n 1, 1) := by decide +kernel
theorem dX12_asks_78 : decode cX12_asks 78 = .ok (.iload 6, 2) := by decide +kernel
theorem dX12_asks_80 : decode cX12_asks 80 = .ok (.invokestatic 292, 3) := by decide +kernel
theorem dX12_asks_83 : decode cX12_asks 83 = .ok (.ifCond .eq 26, 3) := by decide +kernel
theorem dX12_asks_86 : decode cX12_asks 86 = .ok (.aload_n 0, 1) := by decide +kernel
theorem dX12_asks_87 : decode cX12_asks 87 = .ok (.iload 6, 2) := by decide +kernel
theorem dX12_asks_89 : decode cX12_asks 89 = .ok (.iload 4, 2) := by decide +kernel
theorem dX12_asks_91 : decode cX12_asks 91 = .ok (.bipush 10, 2) := by decide +kernel
theorem dX12_asks_93 : decode cX12_asks 93 = .ok (.idiv, 1) := by decide +kernel
theorem dX12_asks_94 : decode cX12_asks 94 = .ok (.iload 4, 2) := by decide +kernel
theorem dX12_asks_96 : decode cX12_asks 96 = .ok (.bipush 10, 2) := by decide +kernel
theorem dX12_asks_98 : decode cX12_asks 98 = .ok (.irem, 1) := by decide +kernel
theorem dX12_asks_99 : decode cX12_asks 99 = .ok (.invokevirtual 317, 3) := by decide +kernel
theorem dX12_asks_102 : decode cX12_asks 102 = .ok (.ifCond .eq 7, 3) := by decide +kernel
theorem dX12_asks_105 : decode cX12_asks 105 = .ok (.iconst 1, 1) := by decide +kernel
theorem dX12_asks_106 : decode cX12_asks 106 = .ok (.goto 4, 3) := by decide +kernel
theorem dX12_asks_109 : decode cX12_asks 109 = .ok (.iconst 0, 1) := by decide +kernel
theorem dX12_asks_110 : decode cX12_asks 110 = .ok (.iadd, 1) := by decide +kernel
theorem dX12_asks_111 : decode cX12_asks 111 = .ok (.istore 5, 2) := by decide +kernel
theorem dX12_asks_113 : decode cX12_asks 113 = .ok (.iinc 6 1, 3) := by decide +kernel
theorem dX12_asks_116 : decode cX12_asks 116 = .ok (.goto (-50), 3) := by decide +kernel
theorem dX12_asks_119 : decode cX12_asks 119 = .ok (.iload 5, 2) := by decide +kernel
theorem dX12_asks_121 : decode cX12_asks 121 = .ok (.iload_n 1, 1) := by decide +kernel
theorem dX12_asks_122 : decode cX12_asks 122 = .ok (.invokestatic 244, 3) := by decide +kernel
theorem dX12_asks_125 : decode cX12_asks 125 = .ok (.iload 5, 2) := by decide +kernel
theorem dX12_asks_127 : decode cX12_asks 127 = .ok (.isub, 1) := by decide +kernel
theorem dX12_asks_128 : decode cX12_asks 128 = .ok (.invokestatic 195, 3) := by decide +kernel
theorem dX12_asks_131 : decode cX12_asks 131 = .ok (.istore 6, 2) := by decide +kernel
theorem dX12_asks_133 : decode cX12_asks 133 = .ok (.iload 6, 2) := by decide +kernel
theorem dX12_asks_135 : decode cX12_asks 135 = .ok (.iload_n 3, 1) := by decide +kernel
theorem dX12_asks_136 : decode cX12_asks 136 = .ok (.if_icmp .lt 6, 3) := by decide +kernel
theorem dX12_asks_139 : decode cX12_asks 139 = .ok (.goto 9, 3) := by decide +kernel
theorem dX12_asks_142 : decode cX12_asks 142 = .ok (.iload 4, 2) := by decide +kernel
theorem dX12_asks_144 : decode cX12_asks 144 = .ok (.istore_n 2, 1) := by decide +kernel
theorem dX12_asks_145 : decode cX12_asks 145 = .ok (.iload 6, 2) := by decide +kernel
theorem dX12_asks_147 : decode cX12_asks 147 = .ok (.istore_n 3, 1) := by decide +kernel
theorem dX12_asks_148 : decode cX12_asks 148 = .ok (.iinc 4 1, 3) := by decide +kernel
theorem dX12_asks_151 : decode cX12_asks 151 = .ok (.goto (-125), 3) := by decide +kernel
theorem dX12_asks_154 : decode cX12_asks 154 = .ok (.aload_n 0, 1) := by decide +kernel
theorem dX12_asks_155 : decode cX12_asks 155 = .ok (.iconst 0, 1) := by decide +kernel
theorem dX12_asks_156 : decode cX12_asks 156 = .ok (.putfield 92, 3) := by decide +kernel
theorem dX12_asks_159 : decode cX12_asks 159 = .ok (.aload_n 0, 1) := by decide +kernel
theorem dX12_asks_160 : decode cX12_asks 160 = .ok (.iload_n 3, 1) := by decide +kernel
theorem dX12_asks_161 : decode cX12_asks 161 = .ok (.i2l, 1) := by decide +kernel
theorem dX12_asks_162 : decode cX12_asks 162 = .ok (.invokevirtual 236, 3) := by decide +kernel
theorem dX12_asks_165 : decode cX12_asks 165 = .ok (.iload_n 2, 1) := by decide +kernel
theorem dX12_asks_166 : decode cX12_asks 166 = .ok (.ireturn, 1) := by decide +kernel
theorem dX12_saw_0 : decode cX12_saw 0 = .ok (.aload_n 0, 1) := by decide +kernel
theorem dX12_saw_1 : decode cX12_saw 1 = .ok (.iconst 0, 1) := by decide +kernel
theorem dX12_saw_2 : decode cX12_saw 2 = .ok (.putfield 88, 3) := by decide +kernel
theorem dX12_saw_5 : decode cX12_saw 5 = .ok (.iload_n 1, 1) := by decide +kernel
theorem dX12_saw_6 : decode cX12_saw 6 = .ok (.iconst 0, 1) := by decide +kernel
theorem dX12_saw_7 : decode cX12_saw 7 = .ok (.bipush 9, 2) := by decide +kernel
theorem dX12_saw_9 : decode cX12_saw 9 = .ok (.invokestatic 98, 3) := by decide +kernel
theorem dX12_saw_12 : decode cX12_saw 12 = .ok (.ifCond .eq 21, 3) := by decide +kernel
theorem dX12_saw_15 : decode cX12_saw 15 = .ok (.iload_n 2, 1) := by decide +kernel
theorem dX12_saw_16 : decode cX12_saw 16 = .ok (.iconst 0, 1) := by decide +kernel
theorem dX12_saw_17 : decode cX12_saw 17 = .ok (.iconst 3, 1) := by decide +kernel
theorem dX12_saw_18 : decode cX12_saw 18 = .ok (.invokestatic 98, 3) := by decide +kernel
theorem dX12_saw_21 : decode cX12_saw 21 = .ok (.ifCond .eq 12, 3) := by decide +kernel
theorem dX12_saw_24 : decode cX12_saw 24 = .ok (.aload_n 0, 1) := by decide +kernel
theorem dX12_saw_25 : decode cX12_saw 25 = .ok (.getfield 323, 3) := by decide +kernel
theorem dX12_saw_28 : decode cX12_saw 28 = .ok (.bipush 10, 2) := by decide +kernel
theorem dX12_saw_30 : decode cX12_saw 30 = .ok (.if_icmp .ne 5, 3) := by decide +kernel
theorem dX12_saw_33 : decode cX12_saw 33 = .ok (.iconst (-1), 1) := by decide +kernel
theorem dX12_saw_34 : decode cX12_saw 34 = .ok (.ireturn, 1) := by decide +kernel
theorem dX12_saw_35 : decode cX12_saw 35 = .ok (.aload_n 0, 1) := by decide +kernel
theorem dX12_saw_36 : decode cX12_saw 36 = .ok (.getfield 69, 3) := by decide +kernel
theorem dX12_saw_39 : decode cX12_saw 39 = .ok (.aload_n 0, 1) := by decide +kernel
theorem dX12_saw_40 : decode cX12_saw 40 = .ok (.getfield 323, 3) := by decide +kernel
theorem dX12_saw_43 : decode cX12_saw 43 = .ok (.iload_n 1, 1) := by decide +kernel
theorem dX12_saw_44 : decode cX12_saw 44 = .ok (.iastore, 1) := by decide +kernel
theorem dX12_saw_45 : decode cX12_saw 45 = .ok (.aload_n 0, 1) := by decide +kernel
theorem dX12_saw_46 : decode cX12_saw 46 = .ok (.getfield 72, 3) := by decide +kernel
theorem dX12_saw_49 : decode cX12_saw 49 = .ok (.aload_n 0, 1) := by decide +kernel
theorem dX12_saw_50 : decode cX12_saw 50 = .ok (.getfield 323, 3) := by decide +kernel
theorem dX12_saw_53 : decode cX12_saw 53 = .ok (.iload_n 2, 1) := by decide +kernel
theorem dX12_saw_54 : decode cX12_saw 54 = .ok (.iastore, 1) := by decide +kernel
theorem dX12_saw_55 : decode cX12_saw 55 = .ok (.aload_n 0, 1) := by decide +kernel
theorem dX12_saw_56 : decode cX12_saw 56 = .ok (.dup, 1) := by decide +kernel
theorem dX12_saw_57 : decode cX12_saw 57 = .ok (.getfield 323, 3) := by decide +kernel
theorem dX12_saw_60 : decode cX12_saw 60 = .ok (.iconst 1, 1) := by decide +kernel
theorem dX12_saw_61 : decode cX12_saw 61 = .ok (.iadd, 1) := by decide +kernel
theorem dX12_saw_62 : decode cX12_saw 62 = .ok (.putfield 323, 3) := by decide +kernel
theorem dX12_saw_65 : decode cX12_saw 65 = .ok (.aload_n 0, 1) := by decide +kernel
theorem dX12_saw_66 : decode cX12_saw 66 = .ok (.getfield 323, 3) := by decide +kernel
theorem dX12_saw_69 : decode cX12_saw 69 = .ok (.ireturn, 1) := by decide +kernel
theorem dX12_denies_0 : decode cX12_denies 0 = .ok (.aload_n 0, 1) := by decide +kernel
theorem dX12_denies_1 : decode cX12_denies 1 = .ok (.iconst 0, 1) := by decide +kernel
theorem dX12_denies_2 : decode cX12_denies 2 = .ok (.putfield 88, 3) := by decide +kernel
theorem dX12_denies_5 : decode cX12_denies 5 = .ok (.aload_n 0, 1) := by decide +kernel
theorem dX12_denies_6 : decode cX12_denies 6 = .ok (.getfield 323, 3) := by decide +kernel
theorem dX12_denies_9 : decode cX12_denies 9 = .ok (.istore_n 1, 1) := by decide +kernel
theorem dX12_denies_10 : decode cX12_denies 10 = .ok (.aload_n 0, 1) := by decide +kernel
theorem dX12_denies_11 : decode cX12_denies 11 = .ok (.iconst 0, 1) := by decide +kernel
theorem dX12_denies_12 : decode cX12_denies 12 = .ok (.putfield 323, 3) := by decide +kernel
theorem dX12_denies_15 : decode cX12_denies 15 = .ok (.iload_n 1, 1) := by decide +kernel
theorem dX12_denies_16 : decode cX12_denies 16 = .ok (.ireturn, 1) := by decide +kernel
theorem dX12_stepsBy_0 : decode cX12_stepsBy 0 = .ok (.iload_n 0, 1) := by decide +kernel
theorem dX12_stepsBy_1 : decode cX12_stepsBy 1 = .ok (.iconst 4, 1) := by decide +kernel
theorem dX12_stepsBy_2 : decode cX12_stepsBy 2 = .ok (.irem, 1) := by decide +kernel
theorem dX12_stepsBy_3 : decode cX12_stepsBy 3 = .ok (.iload_n 0, 1) := by decide +kernel
theorem dX12_stepsBy_4 : decode cX12_stepsBy 4 = .ok (.bipush 20, 2) := by decide +kernel
theorem dX12_stepsBy_6 : decode cX12_stepsBy 6 = .ok (.idiv, 1) := by decide +kernel
theorem dX12_stepsBy_7 : decode cX12_stepsBy 7 = .ok (.iload_n 1, 1) := by decide +kernel
theorem dX12_stepsBy_8 : decode cX12_stepsBy 8 = .ok (.iload_n 0, 1) := by decide +kernel
theorem dX12_stepsBy_9 : decode cX12_stepsBy 9 = .ok (.iconst 4, 1) := by decide +kernel
theorem dX12_stepsBy_10 : decode cX12_stepsBy 10 = .ok (.idiv, 1) := by decide +kernel
theorem dX12_stepsBy_11 : decode cX12_stepsBy 11 = .ok (.iconst 5, 1) := by decide +kernel
theorem dX12_stepsBy_12 : decode cX12_stepsBy 12 = .ok (.irem, 1) := by decide +kernel
theorem dX12_stepsBy_13 : decode cX12_stepsBy 13 = .ok (.iconst 1, 1) := by decide +kernel
theorem dX12_stepsBy_14 : decode cX12_stepsBy 14 = .ok (.iadd, 1) := by decide +kernel
theorem dX12_stepsBy_15 : decode cX12_stepsBy 15 = .ok (.idiv, 1) := by decide +kernel
theorem dX12_stepsBy_16 : decode cX12_stepsBy 16 = .ok (.iadd, 1) := by decide +kernel
theorem dX12_stepsBy_17 : decode cX12_stepsBy 17 = .ok (.invokestatic 189, 3) := by decide +kernel
theorem dX12_stepsBy_20 : decode cX12_stepsBy 20 = .ok (.ireturn, 1) := by decide +kernel
theorem dX12_isLaw_0 : decode cX12_isLaw 0 = .ok (.iconst 0, 1) := by decide +kernel
theorem dX12_isLaw_1 : decode cX12_isLaw 1 = .ok (.istore_n 2, 1) := by decide +kernel
theorem dX12_isLaw_2 : decode cX12_isLaw 2 = .ok (.iload_n 2, 1) := by decide +kernel
theorem dX12_isLaw_3 : decode cX12_isLaw 3 = .ok (.aload_n 0, 1) := by decide +kernel
theorem dX12_isLaw_4 : decode cX12_isLaw 4 = .ok (.getfield 323, 3) := by decide +kernel
theorem dX12_isLaw_7 : decode cX12_isLaw 7 = .ok (.if_icmp .ge 30, 3) := by decide +kernel
theorem dX12_isLaw_10 : decode cX12_isLaw 10 = .ok (.iload_n 1, 1) := by decide +kernel
theorem dX12_isLaw_11 : decode cX12_isLaw 11 = .ok (.aload_n 0, 1) := by decide +kernel
theorem dX12_isLaw_12 : decode cX12_isLaw 12 = .ok (.getfield 69, 3) := by decide +kernel
theorem dX12_isLaw_15 : decode cX12_isLaw 15 = .ok (.iload_n 2, 1) := by decide +kernel
theorem dX12_isLaw_16 : decode cX12_isLaw 16 = .ok (.iaload, 1) := by decide +kernel
theorem dX12_isLaw_17 : decode cX12_isLaw 17 = .ok (.invokestatic 326, 3) := by decide +kernel
theorem dX12_isLaw_20 : decode cX12_isLaw 20 = .ok (.aload_n 0, 1) := by decide +kernel
theorem dX12_isLaw_21 : decode cX12_isLaw 21 = .ok (.getfield 72, 3) := by decide +kernel
theorem dX12_isLaw_24 : decode cX12_isLaw 24 = .ok (.iload_n 2, 1) := by decide +kernel
theorem dX12_isLaw_25 : decode cX12_isLaw 25 = .ok (.iaload, 1) := by decide +kernel
theorem dX12_isLaw_26 : decode cX12_isLaw 26 = .ok (.if_icmp .eq 5, 3) := by decide +kernel
theorem dX12_isLaw_29 : decode cX12_isLaw 29 = .ok (.iconst 0, 1) := by decide +kernel
theorem dX12_isLaw_30 : decode cX12_isLaw 30 = .ok (.ireturn, 1) := by decide +kernel
theorem dX12_isLaw_31 : decode cX12_isLaw 31 = .ok (.iinc 2 1, 3) := by decide +kernel
theorem dX12_isLaw_34 : decode cX12_isLaw 34 = .ok (.goto (-32), 3) := by decide +kernel
theorem dX12_isLaw_37 : decode cX12_isLaw 37 = .ok (.iconst 1, 1) := by decide +kernel
theorem dX12_isLaw_38 : decode cX12_isLaw 38 = .ok (.ireturn, 1) := by decide +kernel
theorem dX12_laws_0 : decode cX12_laws 0 = .ok (.aload_n 0, 1) := by decide +kernel
theorem dX12_laws_1 : decode cX12_laws 1 = .ok (.iconst 0, 1) := by decide +kernel
theorem dX12_laws_2 : decode cX12_laws 2 = .ok (.putfield 88, 3) := by decide +kernel
theorem dX12_laws_5 : decode cX12_laws 5 = .ok (.iconst 0, 1) := by decide +kernel
theorem dX12_laws_6 : decode cX12_laws 6 = .ok (.istore_n 1, 1) := by decide +kernel
theorem dX12_laws_7 : decode cX12_laws 7 = .ok (.aload_n 0, 1) := by decide +kernel
theorem dX12_laws_8 : decode cX12_laws 8 = .ok (.iconst 0, 1) := by decide +kernel
theorem dX12_laws_9 : decode cX12_laws 9 = .ok (.putfield 92, 3) := by decide +kernel
theorem dX12_laws_12 : decode cX12_laws 12 = .ok (.iconst 0, 1) := by decide +kernel
theorem dX12_laws_13 : decode cX12_laws 13 = .ok (.istore_n 2, 1) := by decide +kernel
theorem dX12_laws_14 : decode cX12_laws 14 = .ok (.iload_n 2, 1) := by decide +kernel
theorem dX12_laws_15 : decode cX12_laws 15 = .ok (.bipush 80, 2) := by decide +kernel
theorem dX12_laws_17 : decode cX12_laws 17 = .ok (.if_icmp .ge 56, 3) := by decide +kernel
theorem dX12_laws_20 : decode cX12_laws 20 = .ok (.aload_n 0, 1) := by decide +kernel
theorem dX12_laws_21 : decode cX12_laws 21 = .ok (.iload_n 2, 1) := by decide +kernel
theorem dX12_laws_22 : decode cX12_laws 22 = .ok (.invokevirtual 329, 3) := by decide +kernel
theorem dX12_laws_25 : decode cX12_laws 25 = .ok (.ifCond .ne 6, 3) := by decide +kernel
theorem dX12_laws_28 : decode cX12_laws 28 = .ok (.goto 39, 3) := by decide +kernel
theorem dX12_laws_31 : decode cX12_laws 31 = .ok (.iload_n 1, 1) := by decide +kernel
theorem dX12_laws_32 : decode cX12_laws 32 = .ok (.ifCond .ne 32, 3) := by decide +kernel
theorem dX12_laws_35 : decode cX12_laws 35 = .ok (.aload_n 0, 1) := by decide +kernel
theorem dX12_laws_36 : decode cX12_laws 36 = .ok (.iload_n 2, 1) := by decide +kernel
theorem dX12_laws_37 : decode cX12_laws 37 = .ok (.bipush 20, 2) := by decide +kernel
theorem dX12_laws_39 : decode cX12_laws 39 = .ok (.idiv, 1) := by decide +kernel
theorem dX12_laws_40 : decode cX12_laws 40 = .ok (.i2l, 1) := by decide +kernel
theorem dX12_laws_41 : decode cX12_laws 41 = .ok (.invokevirtual 236, 3) := by decide +kernel
theorem dX12_laws_44 : decode cX12_laws 44 = .ok (.aload_n 0, 1) := by decide +kernel
theorem dX12_laws_45 : decode cX12_laws 45 = .ok (.iload_n 2, 1) := by decide +kernel
theorem dX12_laws_46 : decode cX12_laws 46 = .ok (.iconst 4, 1) := by decide +kernel
theorem dX12_laws_47 : decode cX12_laws 47 = .ok (.idiv, 1) := by decide +kernel
theorem dX12_laws_48 : decode cX12_laws 48 = .ok (.iconst 5, 1) := by decide +kernel
theorem dX12_laws_49 : decode cX12_laws 49 = .ok (.irem, 1) := by decide +kernel
theorem dX12_laws_50 : decode cX12_laws 50 = .ok (.iconst 1, 1) := by decide +kernel
theorem dX12_laws_51 : decode cX12_laws 51 = .ok (.iadd, 1) := by decide +kernel
theorem dX12_laws_52 : decode cX12_laws 52 = .ok (.i2l, 1) := by decide +kernel
theorem dX12_laws_53 : decode cX12_laws 53 = .ok (.invokevirtual 236, 3) := by decide +kernel
theorem dX12_laws_56 : decode cX12_laws 56 = .ok (.aload_n 0, 1) := by decide +kernel
theorem dX12_laws_57 : decode cX12_laws 57 = .ok (.iload_n 2, 1) := by decide +kernel
theorem dX12_laws_58 : decode cX12_laws 58 = .ok (.iconst 4, 1) := by decide +kernel
theorem dX12_laws_59 : decode cX12_laws 59 = .ok (.irem, 1) := by decide +kernel
theorem dX12_laws_60 : decode cX12_laws 60 = .ok (.i2l, 1) := by decide +kernel
theorem dX12_laws_61 : decode cX12_laws 61 = .ok (.invokevirtual 236, 3) := by decide +kernel
theorem dX12_laws_64 : decode cX12_laws 64 = .ok (.iinc 1 1, 3) := by decide +kernel
theorem dX12_laws_67 : decode cX12_laws 67 = .ok (.iinc 2 1, 3) := by decide +kernel
theorem dX12_laws_70 : decode cX12_laws 70 = .ok (.goto (-56), 3) := by decide +kernel
theorem dX12_laws_73 : decode cX12_laws 73 = .ok (.iload_n 1, 1) := by decide +kernel
theorem dX12_laws_74 : decode cX12_laws 74 = .ok (.ireturn, 1) := by decide +kernel
theorem dX12_looks_0 : decode cX12_looks 0 = .ok (.aload_n 0, 1) := by decide +kernel
theorem dX12_looks_1 : decode cX12_looks 1 = .ok (.iconst 0, 1) := by decide +kernel
theorem dX12_looks_2 : decode cX12_looks 2 = .ok (.putfield 88, 3) := by decide +kernel
theorem dX12_looks_5 : decode cX12_looks 5 = .ok (.iconst (-1), 1) := by decide +kernel
theorem dX12_looks_6 : decode cX12_looks 6 = .ok (.istore_n 1, 1) := by decide +kernel
theorem dX12_looks_7 : decode cX12_looks 7 = .ok (.ldc_w 304, 3) := by decide +kernel
theorem dX12_looks_10 : decode cX12_looks 10 = .ok (.istore_n 2, 1) := by decide +kernel
theorem dX12_looks_11 : decode cX12_looks 11 = .ok (.iconst 0, 1) := by decide +kernel
theorem dX12_looks_12 : decode cX12_looks 12 = .ok (.istore_n 3, 1) := by decide +kernel
theorem dX12_looks_13 : decode cX12_looks 13 = .ok (.iload_n 3, 1) := by decide +kernel
theorem dX12_looks_14 : decode cX12_looks 14 = .ok (.bipush 9, 2) := by decide +kernel
theorem dX12_looks_16 : decode cX12_looks 16 = .ok (.if_icmp .gt 99, 3) := by decide +kernel
theorem dX12_looks_19 : decode cX12_looks 19 = .ok (.iconst 0, 1) := by decide +kernel
theorem dX12_looks_20 : decode cX12_looks 20 = .ok (.istore 4, 2) := by decide +kernel
theorem dX12_looks_22 : decode cX12_looks 22 = .ok (.iconst 0, 1) := by decide +kernel
theorem dX12_looks_23 : decode cX12_looks 23 = .ok (.istore 5, 2) := by decide +kernel
theorem dX12_looks_25 : decode cX12_looks 25 = .ok (.iload 5, 2) := by decide +kernel
theorem dX12_looks_27 : decode cX12_looks 27 = .ok (.iconst 3, 1) := by decide +kernel
theorem dX12_looks_28 : decode cX12_looks 28 = .ok (.if_icmp .gt 67, 3) := by decide +kernel
theorem dX12_looks_31 : decode cX12_looks 31 = .ok (.iconst 0, 1) := by decide +kernel
theorem dX12_looks_32 : decode cX12_looks 32 = .ok (.istore 6, 2) := by decide +kernel
theorem dX12_looks_34 : decode cX12_looks 34 = .ok (.iconst 0, 1) := by decide +kernel
theorem dX12_looks_35 : decode cX12_looks 35 = .ok (.istore 7, 2) := by decide +kernel
theorem dX12_looks_37 : decode cX12_looks 37 = .ok (.iload 7, 2) := by decide +kernel
theorem dX12_looks_39 : decode cX12_looks 39 = .ok (.bipush 80, 2) := by decide +kernel
theorem dX12_looks_41 : decode cX12_looks 41 = .ok (.if_icmp .ge 39, 3) := by decide +kernel
theorem dX12_looks_44 : decode cX12_looks 44 = .ok (.iload 6, 2) := by decide +kernel
theorem dX12_looks_46 : decode cX12_looks 46 = .ok (.aload_n 0, 1) := by decide +kernel
theorem dX12_looks_47 : decode cX12_looks 47 = .ok (.iload 7, 2) := by decide +kernel
theorem dX12_looks_49 : decode cX12_looks 49 = .ok (.invokevirtual 329, 3) := by decide +kernel
theorem dX12_looks_52 : decode cX12_looks 52 = .ok (.ifCond .eq 18, 3) := by decide +kernel
theorem dX12_looks_55 : decode cX12_looks 55 = .ok (.iload 7, 2) := by decide +kernel
theorem dX12_looks_57 : decode cX12_looks 57 = .ok (.iload_n 3, 1) := by decide +kernel
theorem dX12_looks_58 : decode cX12_looks 58 = .ok (.invokestatic 326, 3) := by decide +kernel
theorem dX12_looks_61 : decode cX12_looks 61 = .ok (.iload 5, 2) := by decide +kernel
theorem dX12_looks_63 : decode cX12_looks 63 = .ok (.if_icmp .ne 7, 3) := by decide +kernel
theorem dX12_looks_66 : decode cX12_looks 66 = .ok (.iconst 1, 1) := by decide +kernel
theorem dX12_looks_67 : decode cX12_looks 67 = .ok (.goto 4, 3) := by decide +kernel
theorem dX12_looks_70 : decode cX12_looks 70 = .ok (.iconst 0, 1) := by decide +kernel
theorem dX12_looks_71 : decode cX12_looks 71 = .ok (.iadd, 1) := by decide +kernel
theorem dX12_looks_72 : decode cX12_looks 72 = .ok (.istore 6, 2) := by decide +kernel
theorem dX12_looks_74 : decode cX12_looks 74 = .ok (.iinc 7 1, 3) := by decide +kernel
theorem dX12_looks_77 : decode cX12_looks 77 = .ok (.goto (-40), 3) := by decide +kernel
theorem dX12_looks_80 : decode cX12_looks 80 = .ok (.iload 4, 2) := by decide +kernel
theorem dX12_looks_82 : decode cX12_looks 82 = .ok (.iload 6, 2) := by decide +kernel
theorem dX12_looks_84 : decode cX12_looks 84 = .ok (.invokestatic 195, 3) := by decide +kernel
theorem dX12_looks_87 : decode cX12_looks 87 = .ok (.istore 4, 2) := by decide +kernel
theorem dX12_looks_89 : decode cX12_looks 89 = .ok (.iinc 5 1, 3) := by decide +kernel
theorem dX12_looks_92 : decode cX12_looks 92 = .ok (.goto (-67), 3) := by decide +kernel
theorem dX12_looks_95 : decode cX12_looks 95 = .ok (.iload 4, 2) := by decide +kernel
theorem dX12_looks_97 : decode cX12_looks 97 = .ok (.iload_n 2, 1) := by decide +kernel
theorem dX12_looks_98 : decode cX12_looks 98 = .ok (.if_icmp .lt 6, 3) := by decide +kernel
theorem dX12_looks_101 : decode cX12_looks 101 = .ok (.goto 8, 3) := by decide +kernel
theorem dX12_looks_104 : decode cX12_looks 104 = .ok (.iload_n 3, 1) := by decide +kernel
theorem dX12_looks_105 : decode cX12_looks 105 = .ok (.istore_n 1, 1) := by decide +kernel
theorem dX12_looks_106 : decode cX12_looks 106 = .ok (.iload 4, 2) := by decide +kernel
theorem dX12_looks_108 : decode cX12_looks 108 = .ok (.istore_n 2, 1) := by decide +kernel
theorem dX12_looks_109 : decode cX12_looks 109 = .ok (.iinc 3 1, 3) := by decide +kernel
theorem dX12_looks_112 : decode cX12_looks 112 = .ok (.goto (-99), 3) := by decide +kernel
theorem dX12_looks_115 : decode cX12_looks 115 = .ok (.iload_n 2, 1) := by decide +kernel
theorem dX12_looks_116 : decode cX12_looks 116 = .ok (.ifCond .ne 6, 3) := by decide +kernel
theorem dX12_looks_119 : decode cX12_looks 119 = .ok (.bipush (-2), 2) := by decide +kernel
theorem dX12_looks_121 : decode cX12_looks 121 = .ok (.ireturn, 1) := by decide +kernel
theorem dX12_looks_122 : decode cX12_looks 122 = .ok (.aload_n 0, 1) := by decide +kernel
theorem dX12_looks_123 : decode cX12_looks 123 = .ok (.iconst 0, 1) := by decide +kernel
theorem dX12_looks_124 : decode cX12_looks 124 = .ok (.putfield 92, 3) := by decide +kernel
theorem dX12_looks_127 : decode cX12_looks 127 = .ok (.aload_n 0, 1) := by decide +kernel
theorem dX12_looks_128 : decode cX12_looks 128 = .ok (.iload_n 2, 1) := by decide +kernel
theorem dX12_looks_129 : decode cX12_looks 129 = .ok (.i2l, 1) := by decide +kernel
theorem dX12_looks_130 : decode cX12_looks 130 = .ok (.invokevirtual 236, 3) := by decide +kernel
theorem dX12_looks_133 : decode cX12_looks 133 = .ok (.iload_n 1, 1) := by decide +kernel
theorem dX12_looks_134 : decode cX12_looks 134 = .ok (.ireturn, 1) := by decide +kernel
theorem dX12_common_0 : decode cX12_common 0 = .ok (.lload_n 2, 1) := by decide +kernel
theorem dX12_common_1 : decode cX12_common 1 = .ok (.lconst 0, 1) := by decide +kernel
theorem dX12_common_2 : decode cX12_common 2 = .ok (.lcmp, 1) := by decide +kernel
theorem dX12_common_3 : decode cX12_common 3 = .ok (.ifCond .ne 7, 3) := by decide +kernel
theorem dX12_common_6 : decode cX12_common 6 = .ok (.lload_n 0, 1) := by decide +kernel
theorem dX12_common_7 : decode cX12_common 7 = .ok (.goto 10, 3) := by decide +kernel
theorem dX12_common_10 : decode cX12_common 10 = .ok (.lload_n 2, 1) := by decide +kernel
theorem dX12_common_11 : decode cX12_common 11 = .ok (.lload_n 0, 1) := by decide +kernel
theorem dX12_common_12 : decode cX12_common 12 = .ok (.lload_n 2, 1) := by decide +kernel
theorem dX12_common_13 : decode cX12_common 13 = .ok (.lrem, 1) := by decide +kernel
theorem dX12_common_14 : decode cX12_common 14 = .ok (.invokestatic 332, 3) := by decide +kernel
theorem dX12_common_17 : decode cX12_common 17 = .ok (.lreturn, 1) := by decide +kernel
theorem dX12_power_0 : decode cX12_power 0 = .ok (.lconst 1, 1) := by decide +kernel
theorem dX12_power_1 : decode cX12_power 1 = .ok (.lstore_n 3, 1) := by decide +kernel
theorem dX12_power_2 : decode cX12_power 2 = .ok (.iconst 0, 1) := by decide +kernel
theorem dX12_power_3 : decode cX12_power 3 = .ok (.istore 5, 2) := by decide +kernel
theorem dX12_power_5 : decode cX12_power 5 = .ok (.iload 5, 2) := by decide +kernel
theorem dX12_power_7 : decode cX12_power 7 = .ok (.iload_n 2, 1) := by decide +kernel
theorem dX12_power_8 : decode cX12_power 8 = .ok (.if_icmp .ge 13, 3) := by decide +kernel
theorem dX12_power_11 : decode cX12_power 11 = .ok (.lload_n 3, 1) := by decide +kernel
theorem dX12_power_12 : decode cX12_power 12 = .ok (.lload_n 0, 1) := by decide +kernel
theorem dX12_power_13 : decode cX12_power 13 = .ok (.lmul, 1) := by decide +kernel
theorem dX12_power_14 : decode cX12_power 14 = .ok (.lstore_n 3, 1) := by decide +kernel
theorem dX12_power_15 : decode cX12_power 15 = .ok (.iinc 5 1, 3) := by decide +kernel
theorem dX12_power_18 : decode cX12_power 18 = .ok (.goto (-13), 3) := by decide +kernel
theorem dX12_power_21 : decode cX12_power 21 = .ok (.lload_n 3, 1) := by decide +kernel
theorem dX12_power_22 : decode cX12_power 22 = .ok (.lreturn, 1) := by decide +kernel
theorem dX12_strays_0 : decode cX12_strays 0 = .ok (.aload_n 0, 1) := by decide +kernel
theorem dX12_strays_1 : decode cX12_strays 1 = .ok (.iconst 0, 1) := by decide +kernel
theorem dX12_strays_2 : decode cX12_strays 2 = .ok (.putfield 88, 3) := by decide +kernel
theorem dX12_strays_5 : decode cX12_strays 5 = .ok (.aload_n 0, 1) := by decide +kernel
theorem dX12_strays_6 : decode cX12_strays 6 = .ok (.getfield 9, 3) := by decide +kernel
theorem dX12_strays_9 : decode cX12_strays 9 = .ok (.bipush 28, 2) := by decide +kernel
theorem dX12_strays_11 : decode cX12_strays 11 = .ok (.iaload, 1) := by decide +kernel
theorem dX12_strays_12 : decode cX12_strays 12 = .ok (.istore_n 3, 1) := by decide +kernel
theorem dX12_strays_13 : decode cX12_strays 13 = .ok (.iload_n 1, 1) := by decide +kernel
theorem dX12_strays_14 : decode cX12_strays 14 = .ok (.iconst 0, 1) := by decide +kernel
theorem dX12_strays_15 : decode cX12_strays 15 = .ok (.iload_n 3, 1) := by decide +kernel
theorem dX12_strays_16 : decode cX12_strays 16 = .ok (.invokestatic 98, 3) := by decide +kernel
theorem dX12_strays_19 : decode cX12_strays 19 = .ok (.ifCond .eq 13, 3) := by decide +kernel
theorem dX12_strays_22 : decode cX12_strays 22 = .ok (.iload_n 2, 1) := by decide +kernel
theorem dX12_strays_23 : decode cX12_strays 23 = .ok (.iconst 0, 1) := by decide +kernel
theorem dX12_strays_24 : decode cX12_strays 24 = .ok (.bipush 10, 2) := by decide +kernel
theorem dX12_strays_26 : decode cX12_strays 26 = .ok (.invokestatic 98, 3) := by decide +kernel
theorem dX12_strays_29 : decode cX12_strays 29 = .ok (.ifCond .ne 5, 3) := by decide +kernel
theorem dX12_strays_32 : decode cX12_strays 32 = .ok (.iconst (-1), 1) := by decide +kernel
theorem dX12_strays_33 : decode cX12_strays 33 = .ok (.ireturn, 1) := by decide +kernel
theorem dX12_strays_34 : decode cX12_strays 34 = .ok (.lconst 0, 1) := by decide +kernel
theorem dX12_strays_35 : decode cX12_strays 35 = .ok (.lstore 4, 2) := by decide +kernel
theorem dX12_strays_37 : decode cX12_strays 37 = .ok (.lconst 0, 1) := by decide +kernel
theorem dX12_strays_38 : decode cX12_strays 38 = .ok (.lstore 6, 2) := by decide +kernel
theorem dX12_strays_40 : decode cX12_strays 40 = .ok (.iconst 0, 1) := by decide +kernel
theorem dX12_strays_41 : decode cX12_strays 41 = .ok (.istore 8, 2) := by decide +kernel
theorem dX12_strays_43 : decode cX12_strays 43 = .ok (.iload 8, 2) := by decide +kernel
theorem dX12_strays_45 : decode cX12_strays 45 = .ok (.iload_n 3, 1) := by decide +kernel
theorem dX12_strays_46 : decode cX12_strays 46 = .ok (.if_icmp .ge 57, 3) := by decide +kernel
theorem dX12_strays_49 : decode cX12_strays 49 = .ok (.iload_n 2, 1) := by decide +kernel
theorem dX12_strays_50 : decode cX12_strays 50 = .ok (.i2l, 1) := by decide +kernel
theorem dX12_strays_51 : decode cX12_strays 51 = .ok (.iload 8, 2) := by decide +kernel
theorem dX12_strays_53 : decode cX12_strays 53 = .ok (.invokestatic 336, 3) := by decide +kernel
theorem dX12_strays_56 : decode cX12_strays 56 = .ok (.bipush 10, 2) := by decide +kernel
theorem dX12_strays_58 : decode cX12_strays 58 = .ok (.iload_n 2, 1) := by decide +kernel
theorem dX12_strays_59 : decode cX12_strays 59 = .ok (.isub, 1) := by decide +kernel
theorem dX12_strays_60 : decode cX12_strays 60 = .ok (.i2l, 1) := by decide +kernel
theorem dX12_strays_61 : decode cX12_strays 61 = .ok (.iload_n 3, 1) := by decide +kernel
theorem dX12_strays_62 : decode cX12_strays 62 = .ok (.iconst 1, 1) := by decide +kernel
theorem dX12_strays_63 : decode cX12_strays 63 = .ok (.isub, 1) := by decide +kernel
theorem dX12_strays_64 : decode cX12_strays 64 = .ok (.iload 8, 2) := by decide +kernel
theorem dX12_strays_66 : decode cX12_strays 66 = .ok (.isub, 1) := by decide +kernel
theorem dX12_strays_67 : decode cX12_strays 67 = .ok (.invokestatic 336, 3) := by decide +kernel
theorem dX12_strays_70 : decode cX12_strays 70 = .ok (.lmul, 1) := by decide +kernel
theorem dX12_strays_71 : decode cX12_strays 71 = .ok (.lstore 9, 2) := by decide +kernel
theorem dX12_strays_73 : decode cX12_strays 73 = .ok (.lload 6, 2) := by decide +kernel
theorem dX12_strays_75 : decode cX12_strays 75 = .ok (.lload 9, 2) := by decide +kernel
theorem dX12_strays_77 : decode cX12_strays 77 = .ok (.ladd, 1) := by decide +kernel
theorem dX12_strays_78 : decode cX12_strays 78 = .ok (.lstore 6, 2) := by decide +kernel
theorem dX12_strays_80 : decode cX12_strays 80 = .ok (.lload 4, 2) := by decide +kernel
theorem dX12_strays_82 : decode cX12_strays 82 = .ok (.iload 8, 2) := by decide +kernel
theorem dX12_strays_84 : decode cX12_strays 84 = .ok (.iload_n 1, 1) := by decide +kernel
theorem dX12_strays_85 : decode cX12_strays 85 = .ok (.if_icmp .lt 8, 3) := by decide +kernel
theorem dX12_strays_88 : decode cX12_strays 88 = .ok (.lload 9, 2) := by decide +kernel
theorem dX12_strays_90 : decode cX12_strays 90 = .ok (.goto 4, 3) := by decide +kernel
theorem dX12_strays_93 : decode cX12_strays 93 = .ok (.lconst 0, 1) := by decide +kernel
theorem dX12_strays_94 : decode cX12_strays 94 = .ok (.ladd, 1) := by decide +kernel
theorem dX12_strays_95 : decode cX12_strays 95 = .ok (.lstore 4, 2) := by decide +kernel
theorem dX12_strays_97 : decode cX12_strays 97 = .ok (.iinc 8 1, 3) := by decide +kernel
theorem dX12_strays_100 : decode cX12_strays 100 = .ok (.goto (-57), 3) := by decide +kernel
theorem dX12_strays_103 : decode cX12_strays 103 = .ok (.lload 4, 2) := by decide +kernel
theorem dX12_strays_105 : decode cX12_strays 105 = .ok (.lload 6, 2) := by decide +kernel
theorem dX12_strays_107 : decode cX12_strays 107 = .ok (.invokestatic 332, 3) := by decide +kernel
theorem dX12_strays_110 : decode cX12_strays 110 = .ok (.lstore 8, 2) := by decide +kernel
theorem dX12_strays_112 : decode cX12_strays 112 = .ok (.aload_n 0, 1) := by decide +kernel
theorem dX12_strays_113 : decode cX12_strays 113 = .ok (.iconst 0, 1) := by decide +kernel
theorem dX12_strays_114 : decode cX12_strays 114 = .ok (.putfield 92, 3) := by decide +kernel
theorem dX12_strays_117 : decode cX12_strays 117 = .ok (.aload_n 0, 1) := by decide +kernel
theorem dX12_strays_118 : decode cX12_strays 118 = .ok (.lload 4, 2) := by decide +kernel
theorem dX12_strays_120 : decode cX12_strays 120 = .ok (.lload 8, 2) := by decide +kernel
theorem dX12_strays_122 : decode cX12_strays 122 = .ok (.ldiv, 1) := by decide +kernel
theorem dX12_strays_123 : decode cX12_strays 123 = .ok (.invokevirtual 236, 3) := by decide +kernel
theorem dX12_strays_126 : decode cX12_strays 126 = .ok (.aload_n 0, 1) := by decide +kernel
theorem dX12_strays_127 : decode cX12_strays 127 = .ok (.lload 6, 2) := by decide +kernel
theorem dX12_strays_129 : decode cX12_strays 129 = .ok (.lload 8, 2) := by decide +kernel
theorem dX12_strays_131 : decode cX12_strays 131 = .ok (.ldiv, 1) := by decide +kernel
theorem dX12_strays_132 : decode cX12_strays 132 = .ok (.invokevirtual 236, 3) := by decide +kernel
theorem dX12_strays_135 : decode cX12_strays 135 = .ok (.iconst 0, 1) := by decide +kernel
theorem dX12_strays_136 : decode cX12_strays 136 = .ok (.ireturn, 1) := by decide +kernel
theorem dX12_cellOf_0 : decode cX12_cellOf 0 = .ok (.iconst 2, 1) := by decide +kernel
theorem dX12_cellOf_1 : decode cX12_cellOf 1 = .ok (.bipush 21, 2) := by decide +kernel
theorem dX12_cellOf_3 : decode cX12_cellOf 3 = .ok (.iload_n 0, 1) := by decide +kernel
theorem dX12_cellOf_4 : decode cX12_cellOf 4 = .ok (.imul, 1) := by decide +kernel
theorem dX12_cellOf_5 : decode cX12_cellOf 5 = .ok (.iload_n 1, 1) := by decide +kernel
theorem dX12_cellOf_6 : decode cX12_cellOf 6 = .ok (.iadd, 1) := by decide +kernel
theorem dX12_cellOf_7 : decode cX12_cellOf 7 = .ok (.imul, 1) := by decide +kernel
theorem dX12_cellOf_8 : decode cX12_cellOf 8 = .ok (.iload_n 2, 1) := by decide +kernel
theorem dX12_cellOf_9 : decode cX12_cellOf 9 = .ok (.iadd, 1) := by decide +kernel
theorem dX12_cellOf_10 : decode cX12_cellOf 10 = .ok (.ireturn, 1) := by decide +kernel
theorem dX12_winsBy_0 : decode cX12_winsBy 0 = .ok (.iload_n 3, 1) := by decide +kernel
theorem dX12_winsBy_1 : decode cX12_winsBy 1 = .ok (.iconst 1, 1) := by decide +kernel
theorem dX12_winsBy_2 : decode cX12_winsBy 2 = .ok (.if_icmp .ne 19, 3) := by decide +kernel
theorem dX12_winsBy_5 : decode cX12_winsBy 5 = .ok (.aload_n 0, 1) := by decide +kernel
theorem dX12_winsBy_6 : decode cX12_winsBy 6 = .ok (.getfield 75, 3) := by decide +kernel
theorem dX12_winsBy_9 : decode cX12_winsBy 9 = .ok (.iload_n 2, 1) := by decide +kernel
theorem dX12_winsBy_10 : decode cX12_winsBy 10 = .ok (.iload_n 1, 1) := by decide +kernel
theorem dX12_winsBy_11 : decode cX12_winsBy 11 = .ok (.iconst 0, 1) := by decide +kernel
theorem dX12_winsBy_12 : decode cX12_winsBy 12 = .ok (.invokestatic 340, 3) := by decide +kernel
theorem dX12_winsBy_15 : decode cX12_winsBy 15 = .ok (.baload, 1) := by decide +kernel
theorem dX12_winsBy_16 : decode cX12_winsBy 16 = .ok (.ifCond .ne 5, 3) := by decide +kernel
theorem dX12_winsBy_19 : decode cX12_winsBy 19 = .ok (.iconst 0, 1) := by decide +kernel
theorem dX12_winsBy_20 : decode cX12_winsBy 20 = .ok (.ireturn, 1) := by decide +kernel
theorem dX12_winsBy_21 : decode cX12_winsBy 21 = .ok (.iconst 1, 1) := by decide +kernel
theorem dX12_winsBy_22 : decode cX12_winsBy 22 = .ok (.istore 4, 2) := by decide +kernel
theorem dX12_winsBy_24 : decode cX12_winsBy 24 = .ok (.iload 4, 2) := by decide +kernel
theorem dX12_winsBy_26 : decode cX12_winsBy 26 = .ok (.iconst 2, 1) := by decide +kernel
theorem dX12_winsBy_27 : decode cX12_winsBy 27 = .ok (.if_icmp .gt 38, 3) := by decide +kernel
theorem dX12_winsBy_30 : decode cX12_winsBy 30 = .ok (.iload 4, 2) := by decide +kernel
theorem dX12_winsBy_32 : decode cX12_winsBy 32 = .ok (.iload_n 1, 1) := by decide +kernel
theorem dX12_winsBy_33 : decode cX12_winsBy 33 = .ok (.if_icmp .ge 32, 3) := by decide +kernel
theorem dX12_winsBy_36 : decode cX12_winsBy 36 = .ok (.aload_n 0, 1) := by decide +kernel
theorem dX12_winsBy_37 : decode cX12_winsBy 37 = .ok (.getfield 75, 3) := by decide +kernel
theorem dX12_winsBy_40 : decode cX12_winsBy 40 = .ok (.iload_n 2, 1) := by decide +kernel
theorem dX12_winsBy_41 : decode cX12_winsBy 41 = .ok (.iload_n 1, 1) := by decide +kernel
theorem dX12_winsBy_42 : decode cX12_winsBy 42 = .ok (.iload 4, 2) := by decide +kernel
theorem dX12_winsBy_44 : decode cX12_winsBy 44 = .ok (.isub, 1) := by decide +kernel
theorem dX12_winsBy_45 : decode cX12_winsBy 45 = .ok (.iload 4, 2) := by decide +kernel
theorem dX12_winsBy_47 : decode cX12_winsBy 47 = .ok (.iconst 1, 1) := by decide +kernel
theorem dX12_winsBy_48 : decode cX12_winsBy 48 = .ok (.isub, 1) := by decide +kernel
theorem dX12_winsBy_49 : decode cX12_winsBy 49 = .ok (.invokestatic 340, 3) := by decide +kernel
theorem dX12_winsBy_52 : decode cX12_winsBy 52 = .ok (.baload, 1) := by decide +kernel
theorem dX12_winsBy_53 : decode cX12_winsBy 53 = .ok (.ifCond .ne 6, 3) := by decide +kernel
theorem dX12_winsBy_56 : decode cX12_winsBy 56 = .ok (.iload 4, 2) := by decide +kernel
theorem dX12_winsBy_58 : decode cX12_winsBy 58 = .ok (.ireturn, 1) := by decide +kernel
theorem dX12_winsBy_59 : decode cX12_winsBy 59 = .ok (.iinc 4 1, 3) := by decide +kernel
theorem dX12_winsBy_62 : decode cX12_winsBy 62 = .ok (.goto (-38), 3) := by decide +kernel
theorem dX12_winsBy_65 : decode cX12_winsBy 65 = .ok (.bipush (-2), 2) := by decide +kernel
theorem dX12_winsBy_67 : decode cX12_winsBy 67 = .ok (.ireturn, 1) := by decide +kernel
theorem dX12_bend_0 : decode cX12_bend 0 = .ok (.aload_n 0, 1) := by decide +kernel
theorem dX12_bend_1 : decode cX12_bend 1 = .ok (.iconst 0, 1) := by decide +kernel
theorem dX12_bend_2 : decode cX12_bend 2 = .ok (.putfield 88, 3) := by decide +kernel
theorem dX12_bend_5 : decode cX12_bend 5 = .ok (.iload_n 1, 1) := by decide +kernel
theorem dX12_bend_6 : decode cX12_bend 6 = .ok (.iconst 1, 1) := by decide +kernel
theorem dX12_bend_7 : decode cX12_bend 7 = .ok (.bipush 20, 2) := by decide +kernel
theorem dX12_bend_9 : decode cX12_bend 9 = .ok (.invokestatic 98, 3) := by decide +kernel
theorem dX12_bend_12 : decode cX12_bend 12 = .ok (.ifCond .eq 13, 3) := by decide +kernel
theorem dX12_bend_15 : decode cX12_bend 15 = .ok (.iload_n 2, 1) := by decide +kernel
theorem dX12_bend_16 : decode cX12_bend 16 = .ok (.iconst 1, 1) := by decide +kernel
theorem dX12_bend_17 : decode cX12_bend 17 = .ok (.bipush 20, 2) := by decide +kernel
theorem dX12_bend_19 : decode cX12_bend 19 = .ok (.invokestatic 98, 3) := by decide +kernel
theorem dX12_bend_22 : decode cX12_bend 22 = .ok (.ifCond .ne 5, 3) := by decide +kernel
theorem dX12_bend_25 : decode cX12_bend 25 = .ok (.iconst (-1), 1) := by decide +kernel
theorem dX12_bend_26 : decode cX12_bend 26 = .ok (.ireturn, 1) := by decide +kernel
theorem dX12_bend_27 : decode cX12_bend 27 = .ok (.iconst 2, 1) := by decide +kernel
theorem dX12_bend_28 : decode cX12_bend 28 = .ok (.istore_n 3, 1) := by decide +kernel
theorem dX12_bend_29 : decode cX12_bend 29 = .ok (.iload_n 3, 1) := by decide +kernel
theorem dX12_bend_30 : decode cX12_bend 30 = .ok (.iload_n 1, 1) := by decide +kernel
theorem dX12_bend_31 : decode cX12_bend 31 = .ok (.iload_n 2, 1) := by decide +kernel
theorem dX12_bend_32 : decode cX12_bend 32 = .ok (.iadd, 1) := by decide +kernel
theorem dX12_bend_33 : decode cX12_bend 33 = .ok (.if_icmp .gt 89, 3) := by decide +kernel
theorem dX12_bend_36 : decode cX12_bend 36 = .ok (.iconst 0, 1) := by decide +kernel
theorem dX12_bend_37 : decode cX12_bend 37 = .ok (.istore 4, 2) := by decide +kernel
theorem dX12_bend_39 : decode cX12_bend 39 = .ok (.iload 4, 2) := by decide +kernel
theorem dX12_bend_41 : decode cX12_bend 41 = .ok (.iconst 2, 1) := by decide +kernel
theorem dX12_bend_42 : decode cX12_bend 42 = .ok (.if_icmp .ge 74, 3) := by decide +kernel
theorem dX12_bend_45 : decode cX12_bend 45 = .ok (.iconst 1, 1) := by decide +kernel
theorem dX12_bend_46 : decode cX12_bend 46 = .ok (.iload_n 3, 1) := by decide +kernel
theorem dX12_bend_47 : decode cX12_bend 47 = .ok (.bipush 20, 2) := by decide +kernel
theorem dX12_bend_49 : decode cX12_bend 49 = .ok (.isub, 1) := by decide +kernel
theorem dX12_bend_50 : decode cX12_bend 50 = .ok (.invokestatic 195, 3) := by decide +kernel
theorem dX12_bend_53 : decode cX12_bend 53 = .ok (.istore 5, 2) := by decide +kernel
theorem dX12_bend_55 : decode cX12_bend 55 = .ok (.iload 5, 2) := by decide +kernel
theorem dX12_bend_57 : decode cX12_bend 57 = .ok (.bipush 20, 2) := by decide +kernel
theorem dX12_bend_59 : decode cX12_bend 59 = .ok (.if_icmp .gt 51, 3) := by decide +kernel
theorem dX12_bend_62 : decode cX12_bend 62 = .ok (.iload 5, 2) := by decide +kernel
theorem dX12_bend_64 : decode cX12_bend 64 = .ok (.iload_n 3, 1) := by decide +kernel
theorem dX12_bend_65 : decode cX12_bend 65 = .ok (.if_icmp .ge 45, 3) := by decide +kernel
theorem dX12_bend_68 : decode cX12_bend 68 = .ok (.aload_n 0, 1) := by decide +kernel
theorem dX12_bend_69 : decode cX12_bend 69 = .ok (.getfield 75, 3) := by decide +kernel
theorem dX12_bend_72 : decode cX12_bend 72 = .ok (.iload 5, 2) := by decide +kernel
theorem dX12_bend_74 : decode cX12_bend 74 = .ok (.iload_n 3, 1) := by decide +kernel
theorem dX12_bend_75 : decode cX12_bend 75 = .ok (.iload 5, 2) := by decide +kernel
theorem dX12_bend_77 : decode cX12_bend 77 = .ok (.isub, 1) := by decide +kernel
theorem dX12_bend_78 : decode cX12_bend 78 = .ok (.iload 4, 2) := by decide +kernel
theorem dX12_bend_80 : decode cX12_bend 80 = .ok (.invokestatic 340, 3) := by decide +kernel
theorem dX12_bend_83 : decode cX12_bend 83 = .ok (.aload_n 0, 1) := by decide +kernel
theorem dX12_bend_84 : decode cX12_bend 84 = .ok (.iload 5, 2) := by decide +kernel
theorem dX12_bend_86 : decode cX12_bend 86 = .ok (.iload_n 3, 1) := by decide +kernel
theorem dX12_bend_87 : decode cX12_bend 87 = .ok (.iload 5, 2) := by decide +kernel
theorem dX12_bend_89 : decode cX12_bend 89 = .ok (.isub, 1) := by decide +kernel
theorem dX12_bend_90 : decode cX12_bend 90 = .ok (.iload 4, 2) := by decide +kernel
theorem dX12_bend_92 : decode cX12_bend 92 = .ok (.invokevirtual 343, 3) := by decide +kernel
theorem dX12_bend_95 : decode cX12_bend 95 = .ok (.ifCond .lt 7, 3) := by decide +kernel
theorem dX12_bend_98 : decode cX12_bend 98 = .ok (.iconst 1, 1) := by decide +kernel
theorem dX12_bend_99 : decode cX12_bend 99 = .ok (.goto 4, 3) := by decide +kernel
theorem dX12_bend_102 : decode cX12_bend 102 = .ok (.iconst 0, 1) := by decide +kernel
theorem dX12_bend_103 : decode cX12_bend 103 = .ok (.bastore, 1) := by decide +kernel
theorem dX12_bend_104 : decode cX12_bend 104 = .ok (.iinc 5 1, 3) := by decide +kernel
theorem dX12_bend_107 : decode cX12_bend 107 = .ok (.goto (-52), 3) := by decide +kernel
theorem dX12_bend_110 : decode cX12_bend 110 = .ok (.iinc 4 1, 3) := by decide +kernel
theorem dX12_bend_113 : decode cX12_bend 113 = .ok (.goto (-74), 3) := by decide +kernel
theorem dX12_bend_116 : decode cX12_bend 116 = .ok (.iinc 3 1, 3) := by decide +kernel
theorem dX12_bend_119 : decode cX12_bend 119 = .ok (.goto (-90), 3) := by decide +kernel
theorem dX12_bend_122 : decode cX12_bend 122 = .ok (.aload_n 0, 1) := by decide +kernel
theorem dX12_bend_123 : decode cX12_bend 123 = .ok (.iload_n 1, 1) := by decide +kernel
theorem dX12_bend_124 : decode cX12_bend 124 = .ok (.iload_n 2, 1) := by decide +kernel
theorem dX12_bend_125 : decode cX12_bend 125 = .ok (.iconst 0, 1) := by decide +kernel
theorem dX12_bend_126 : decode cX12_bend 126 = .ok (.invokevirtual 343, 3) := by decide +kernel
theorem dX12_bend_129 : decode cX12_bend 129 = .ok (.istore_n 3, 1) := by decide +kernel
theorem dX12_bend_130 : decode cX12_bend 130 = .ok (.aload_n 0, 1) := by decide +kernel
theorem dX12_bend_131 : decode cX12_bend 131 = .ok (.iconst 0, 1) := by decide +kernel
theorem dX12_bend_132 : decode cX12_bend 132 = .ok (.putfield 92, 3) := by decide +kernel
theorem dX12_bend_135 : decode cX12_bend 135 = .ok (.iload_n 3, 1) := by decide +kernel
theorem dX12_bend_136 : decode cX12_bend 136 = .ok (.ifCond .ge 5, 3) := by decide +kernel
theorem dX12_bend_139 : decode cX12_bend 139 = .ok (.iconst 0, 1) := by decide +kernel
theorem dX12_bend_140 : decode cX12_bend 140 = .ok (.ireturn, 1) := by decide +kernel
theorem dX12_bend_141 : decode cX12_bend 141 = .ok (.aload_n 0, 1) := by decide +kernel
theorem dX12_bend_142 : decode cX12_bend 142 = .ok (.iload_n 3, 1) := by decide +kernel
theorem dX12_bend_143 : decode cX12_bend 143 = .ok (.i2l, 1) := by decide +kernel
theorem dX12_bend_144 : decode cX12_bend 144 = .ok (.invokevirtual 236, 3) := by decide +kernel
theorem dX12_bend_147 : decode cX12_bend 147 = .ok (.iconst 1, 1) := by decide +kernel
theorem dX12_bend_148 : decode cX12_bend 148 = .ok (.ireturn, 1) := by decide +kernel
theorem dX12_gets_0 : decode cX12_gets 0 = .ok (.iload_n 0, 1) := by decide +kernel
theorem dX12_gets_1 : decode cX12_gets 1 = .ok (.iload_n 1, 1) := by decide +kernel
theorem dX12_gets_2 : decode cX12_gets 2 = .ok (.iadd, 1) := by decide +kernel
theorem dX12_gets_3 : decode cX12_gets 3 = .ok (.iconst 2, 1) := by decide +kernel
theorem dX12_gets_4 : decode cX12_gets 4 = .ok (.idiv, 1) := by decide +kernel
theorem dX12_gets_5 : decode cX12_gets 5 = .ok (.iload_n 0, 1) := by decide +kernel
theorem dX12_gets_6 : decode cX12_gets 6 = .ok (.iload_n 1, 1) := by decide +kernel
theorem dX12_gets_7 : decode cX12_gets 7 = .ok (.if_icmp .le 7, 3) := by decide +kernel
theorem dX12_gets_10 : decode cX12_gets 10 = .ok (.iload_n 2, 1) := by decide +kernel
theorem dX12_gets_11 : decode cX12_gets 11 = .ok (.goto 4, 3) := by decide +kernel
theorem dX12_gets_14 : decode cX12_gets 14 = .ok (.iconst 0, 1) := by decide +kernel
theorem dX12_gets_15 : decode cX12_gets 15 = .ok (.iadd, 1) := by decide +kernel
theorem dX12_gets_16 : decode cX12_gets 16 = .ok (.iload_n 0, 1) := by decide +kernel
theorem dX12_gets_17 : decode cX12_gets 17 = .ok (.isub, 1) := by decide +kernel
theorem dX12_gets_18 : decode cX12_gets 18 = .ok (.iconst 0, 1) := by decide +kernel
theorem dX12_gets_19 : decode cX12_gets 19 = .ok (.iload_n 0, 1) := by decide +kernel
theorem dX12_gets_20 : decode cX12_gets 20 = .ok (.iconst 4, 1) := by decide +kernel
theorem dX12_gets_21 : decode cX12_gets 21 = .ok (.isub, 1) := by decide +kernel
theorem dX12_gets_22 : decode cX12_gets 22 = .ok (.invokestatic 195, 3) := by decide +kernel
theorem dX12_gets_25 : decode cX12_gets 25 = .ok (.isub, 1) := by decide +kernel
theorem dX12_gets_26 : decode cX12_gets 26 = .ok (.ireturn, 1) := by decide +kernel
theorem dX12_isBest_0 : decode cX12_isBest 0 = .ok (.iconst 0, 1) := by decide +kernel
theorem dX12_isBest_1 : decode cX12_isBest 1 = .ok (.istore_n 3, 1) := by decide +kernel
theorem dX12_isBest_2 : decode cX12_isBest 2 = .ok (.iload_n 3, 1) := by decide +kernel
theorem dX12_isBest_3 : decode cX12_isBest 3 = .ok (.bipush 9, 2) := by decide +kernel
theorem dX12_isBest_5 : decode cX12_isBest 5 = .ok (.if_icmp .gt 26, 3) := by decide +kernel
theorem dX12_isBest_8 : decode cX12_isBest 8 = .ok (.iload_n 3, 1) := by decide +kernel
theorem dX12_isBest_9 : decode cX12_isBest 9 = .ok (.iload_n 1, 1) := by decide +kernel
theorem dX12_isBest_10 : decode cX12_isBest 10 = .ok (.iload_n 2, 1) := by decide +kernel
theorem dX12_isBest_11 : decode cX12_isBest 11 = .ok (.invokestatic 346, 3) := by decide +kernel
theorem dX12_isBest_14 : decode cX12_isBest 14 = .ok (.iload_n 0, 1) := by decide +kernel
theorem dX12_isBest_15 : decode cX12_isBest 15 = .ok (.iload_n 1, 1) := by decide +kernel
theorem dX12_isBest_16 : decode cX12_isBest 16 = .ok (.iload_n 2, 1) := by decide +kernel
theorem dX12_isBest_17 : decode cX12_isBest 17 = .ok (.invokestatic 346, 3) := by decide +kernel
theorem dX12_isBest_20 : decode cX12_isBest 20 = .ok (.if_icmp .le 5, 3) := by decide +kernel
theorem dX12_isBest_23 : decode cX12_isBest 23 = .ok (.iconst 0, 1) := by decide +kernel
theorem dX12_isBest_24 : decode cX12_isBest 24 = .ok (.ireturn, 1) := by decide +kernel
theorem dX12_isBest_25 : decode cX12_isBest 25 = .ok (.iinc 3 1, 3) := by decide +kernel
theorem dX12_isBest_28 : decode cX12_isBest 28 = .ok (.goto (-26), 3) := by decide +kernel
theorem dX12_isBest_31 : decode cX12_isBest 31 = .ok (.iconst 1, 1) := by decide +kernel
theorem dX12_isBest_32 : decode cX12_isBest 32 = .ok (.ireturn, 1) := by decide +kernel
theorem dX12_rests_0 : decode cX12_rests 0 = .ok (.aload_n 0, 1) := by decide +kernel
theorem dX12_rests_1 : decode cX12_rests 1 = .ok (.iconst 0, 1) := by decide +kernel
theorem dX12_rests_2 : decode cX12_rests 2 = .ok (.putfield 88, 3) := by decide +kernel
theorem dX12_rests_5 : decode cX12_rests 5 = .ok (.iload_n 1, 1) := by decide +kernel
theorem dX12_rests_6 : decode cX12_rests 6 = .ok (.iconst 0, 1) := by decide +kernel
theorem dX12_rests_7 : decode cX12_rests 7 = .ok (.bipush 20, 2) := by decide +kernel
theorem dX12_rests_9 : decode cX12_rests 9 = .ok (.invokestatic 98, 3) := by decide +kernel
theorem dX12_rests_12 : decode cX12_rests 12 = .ok (.ifCond .ne 5, 3) := by decide +kernel
theorem dX12_rests_15 : decode cX12_rests 15 = .ok (.iconst (-1), 1) := by decide +kernel
theorem dX12_rests_16 : decode cX12_rests 16 = .ok (.ireturn, 1) := by decide +kernel
theorem dX12_rests_17 : decode cX12_rests 17 = .ok (.iconst 0, 1) := by decide +kernel
theorem dX12_rests_18 : decode cX12_rests 18 = .ok (.istore_n 2, 1) := by decide +kernel
theorem dX12_rests_19 : decode cX12_rests 19 = .ok (.aload_n 0, 1) := by decide +kernel
theorem dX12_rests_20 : decode cX12_rests 20 = .ok (.iconst 0, 1) := by decide +kernel
theorem dX12_rests_21 : decode cX12_rests 21 = .ok (.putfield 92, 3) := by decide +kernel
theorem dX12_rests_24 : decode cX12_rests 24 = .ok (.iconst 0, 1) := by decide +kernel
theorem dX12_rests_25 : decode cX12_rests 25 = .ok (.istore_n 3, 1) := by decide +kernel
theorem dX12_rests_26 : decode cX12_rests 26 = .ok (.iload_n 3, 1) := by decide +kernel
theorem dX12_rests_27 : decode cX12_rests 27 = .ok (.bipush 9, 2) := by decide +kernel
theorem dX12_rests_29 : decode cX12_rests 29 = .ok (.if_icmp .gt 68, 3) := by decide +kernel
theorem dX12_rests_32 : decode cX12_rests 32 = .ok (.iconst 0, 1) := by decide +kernel
theorem dX12_rests_33 : decode cX12_rests 33 = .ok (.istore 4, 2) := by decide +kernel
theorem dX12_rests_35 : decode cX12_rests 35 = .ok (.iload 4, 2) := by decide +kernel
theorem dX12_rests_37 : decode cX12_rests 37 = .ok (.bipush 9, 2) := by decide +kernel
theorem dX12_rests_39 : decode cX12_rests 39 = .ok (.if_icmp .gt 52, 3) := by decide +kernel
theorem dX12_rests_42 : decode cX12_rests 42 = .ok (.iload_n 3, 1) := by decide +kernel
theorem dX12_rests_43 : decode cX12_rests 43 = .ok (.iload 4, 2) := by decide +kernel
theorem dX12_rests_45 : decode cX12_rests 45 = .ok (.iload_n 1, 1) := by decide +kernel
theorem dX12_rests_46 : decode cX12_rests 46 = .ok (.invokestatic 349, 3) := by decide +kernel
theorem dX12_rests_49 : decode cX12_rests 49 = .ok (.ifCond .eq 36, 3) := by decide +kernel
theorem dX12_rests_52 : decode cX12_rests 52 = .ok (.iload 4, 2) := by decide +kernel
theorem dX12_rests_54 : decode cX12_rests 54 = .ok (.iload_n 3, 1) := by decide +kernel
theorem dX12_rests_55 : decode cX12_rests 55 = .ok (.iload_n 1, 1) := by decide +kernel
theorem dX12_rests_56 : decode cX12_rests 56 = .ok (.invokestatic 349, 3) := by decide +kernel
theorem dX12_rests_59 : decode cX12_rests 59 = .ok (.ifCond .ne 6, 3) := by decide +kernel
theorem dX12_rests_62 : decode cX12_rests 62 = .ok (.goto 23, 3) := by decide +kernel
theorem dX12_rests_65 : decode cX12_rests 65 = .ok (.iload_n 2, 1) := by decide +kernel
theorem dX12_rests_66 : decode cX12_rests 66 = .ok (.ifCond .ne 16, 3) := by decide +kernel
theorem dX12_rests_69 : decode cX12_rests 69 = .ok (.aload_n 0, 1) := by decide +kernel
theorem dX12_rests_70 : decode cX12_rests 70 = .ok (.iload_n 3, 1) := by decide +kernel
theorem dX12_rests_71 : decode cX12_rests 71 = .ok (.i2l, 1) := by decide +kernel
theorem dX12_rests_72 : decode cX12_rests 72 = .ok (.invokevirtual 236, 3) := by decide +kernel
theorem dX12_rests_75 : decode cX12_rests 75 = .ok (.aload_n 0, 1) := by decide +kernel
theorem dX12_rests_76 : decode cX12_rests 76 = .ok (.iload 4, 2) := by decide +kernel
theorem dX12_rests_78 : decode cX12_rests 78 = .ok (.i2l, 1) := by decide +kernel
theorem dX12_rests_79 : decode cX12_rests 79 = .ok (.invokevirtual 236, 3) := by decide +kernel
theorem dX12_rests_82 : decode cX12_rests 82 = .ok (.iinc 2 1, 3) := by decide +kernel
theorem dX12_rests_85 : decode cX12_rests 85 = .ok (.iinc 4 1, 3) := by decide +kernel
theorem dX12_rests_88 : decode cX12_rests 88 = .ok (.goto (-53), 3) := by decide +kernel
theorem dX12_rests_91 : decode cX12_rests 91 = .ok (.iinc 3 1, 3) := by decide +kernel
theorem dX12_rests_94 : decode cX12_rests 94 = .ok (.goto (-68), 3) := by decide +kernel
theorem dX12_rests_97 : decode cX12_rests 97 = .ok (.iload_n 2, 1) := by decide +kernel
theorem dX12_rests_98 : decode cX12_rests 98 = .ok (.ireturn, 1) := by decide +kernel
theorem dX12_law_0 : decode cX12_law 0 = .ok (.aload_n 0, 1) := by decide +kernel
theorem dX12_law_1 : decode cX12_law 1 = .ok (.iconst 0, 1) := by decide +kernel
theorem dX12_law_2 : decode cX12_law 2 = .ok (.putfield 88, 3) := by decide +kernel
theorem dX12_law_5 : decode cX12_law 5 = .ok (.aload_n 0, 1) := by decide +kernel
theorem dX12_law_6 : decode cX12_law 6 = .ok (.getfield 102, 3) := by decide +kernel
theorem dX12_law_9 : decode cX12_law 9 = .ok (.istore_n 1, 1) := by decide +kernel
theorem dX12_law_10 : decode cX12_law 10 = .ok (.aload_n 0, 1) := by decide +kernel
theorem dX12_law_11 : decode cX12_law 11 = .ok (.invokevirtual 183, 3) := by decide +kernel
theorem dX12_law_14 : decode cX12_law 14 = .ok (.ifCond .ne 12, 3) := by decide +kernel
theorem dX12_law_17 : decode cX12_law 17 = .ok (.sipush (-10000), 3) := by decide +kernel
theorem dX12_law_20 : decode cX12_law 20 = .ok (.aload_n 0, 1) := by decide +kernel
theorem dX12_law_21 : decode cX12_law 21 = .ok (.getfield 117, 3) := by decide +kernel
theorem dX12_law_24 : decode cX12_law 24 = .ok (.isub, 1) := by decide +kernel
theorem dX12_law_25 : decode cX12_law 25 = .ok (.ireturn, 1) := by decide +kernel
theorem dX12_law_26 : decode cX12_law 26 = .ok (.aload_n 0, 1) := by decide +kernel
theorem dX12_law_27 : decode cX12_law 27 = .ok (.bipush 20, 2) := by decide +kernel
theorem dX12_law_29 : decode cX12_law 29 = .ok (.invokevirtual 276, 3) := by decide +kernel
theorem dX12_law_32 : decode cX12_law 32 = .ok (.aload_n 0, 1) := by decide +kernel
theorem dX12_law_33 : decode cX12_law 33 = .ok (.getfield 223, 3) := by decide +kernel
theorem dX12_law_36 : decode cX12_law 36 = .ok (.istore_n 2, 1) := by decide +kernel
theorem dX12_law_37 : decode cX12_law 37 = .ok (.aload_n 0, 1) := by decide +kernel
theorem dX12_law_38 : decode cX12_law 38 = .ok (.getfield 42, 3) := by decide +kernel
theorem dX12_law_41 : decode cX12_law 41 = .ok (.bipush 29, 2) := by decide +kernel
theorem dX12_law_43 : decode cX12_law 43 = .ok (.iaload, 1) := by decide +kernel
theorem dX12_law_44 : decode cX12_law 44 = .ok (.istore_n 3, 1) := by decide +kernel
theorem dX12_law_45 : decode cX12_law 45 = .ok (.aload_n 0, 1) := by decide +kernel
theorem dX12_law_46 : decode cX12_law 46 = .ok (.getfield 27, 3) := by decide +kernel
theorem dX12_law_49 : decode cX12_law 49 = .ok (.astore 4, 2) := by decide +kernel
theorem dX12_law_51 : decode cX12_law 51 = .ok (.aload_n 0, 1) := by decide +kernel
theorem dX12_law_52 : decode cX12_law 52 = .ok (.getfield 186, 3) := by decide +kernel
theorem dX12_law_55 : decode cX12_law 55 = .ok (.istore 5, 2) := by decide +kernel
theorem dX12_law_57 : decode cX12_law 57 = .ok (.aload_n 0, 1) := by decide +kernel
theorem dX12_law_58 : decode cX12_law 58 = .ok (.aload_n 0, 1) := by decide +kernel
theorem dX12_law_59 : decode cX12_law 59 = .ok (.getfield 30, 3) := by decide +kernel
theorem dX12_law_62 : decode cX12_law 62 = .ok (.putfield 27, 3) := by decide +kernel
theorem dX12_law_65 : decode cX12_law 65 = .ok (.aload_n 0, 1) := by decide +kernel
theorem dX12_law_66 : decode cX12_law 66 = .ok (.iload_n 1, 1) := by decide +kernel
theorem dX12_law_67 : decode cX12_law 67 = .ok (.putfield 186, 3) := by decide +kernel
theorem dX12_law_70 : decode cX12_law 70 = .ok (.iconst 0, 1) := by decide +kernel
theorem dX12_law_71 : decode cX12_law 71 = .ok (.istore 6, 2) := by decide +kernel
theorem dX12_law_73 : decode cX12_law 73 = .ok (.iload 6, 2) := by decide +kernel
theorem dX12_law_75 : decode cX12_law 75 = .ok (.iload_n 1, 1) := by decide +kernel
theorem dX12_law_76 : decode cX12_law 76 = .ok (.if_icmp .ge 23, 3) := by decide +kernel
theorem dX12_law_79 : decode cX12_law 79 = .ok (.aload_n 0, 1) := by decide +kernel
theorem dX12_law_80 : decode cX12_law 80 = .ok (.getfield 27, 3) := by decide +kernel
theorem dX12_law_83 : decode cX12_law 83 = .ok (.iload 6, 2) := by decide +kernel
theorem dX12_law_85 : decode cX12_law 85 = .ok (.aload_n 0, 1) := by decide +kernel
theorem dX12_law_86 : decode cX12_law 86 = .ok (.getfield 16, 3) := by decide +kernel
theorem dX12_law_89 : decode cX12_law 89 = .ok (.iload 6, 2) := by decide +kernel
theorem dX12_law_91 : decode cX12_law 91 = .ok (.baload, 1) := by decide +kernel
theorem dX12_law_92 : decode cX12_law 92 = .ok (.bastore, 1) := by decide +kernel
theorem dX12_law_93 : decode cX12_law 93 = .ok (.iinc 6 1, 3) := by decide +kernel
theorem dX12_law_96 : decode cX12_law 96 = .ok (.goto (-23), 3) := by decide +kernel
theorem dX12_law_99 : decode cX12_law 99 = .ok (.aload_n 0, 1) := by decide +kernel
theorem dX12_law_100 : decode cX12_law 100 = .ok (.bipush 20, 2) := by decide +kernel
theorem dX12_law_102 : decode cX12_law 102 = .ok (.invokevirtual 276, 3) := by decide +kernel
theorem dX12_law_105 : decode cX12_law 105 = .ok (.aload_n 0, 1) := by decide +kernel
theorem dX12_law_106 : decode cX12_law 106 = .ok (.aload 4, 2) := by decide +kernel
theorem dX12_law_108 : decode cX12_law 108 = .ok (.putfield 27, 3) := by decide +kernel
theorem dX12_law_111 : decode cX12_law 111 = .ok (.aload_n 0, 1) := by decide +kernel
theorem dX12_law_112 : decode cX12_law 112 = .ok (.iload 5, 2) := by decide +kernel
theorem dX12_law_114 : decode cX12_law 114 = .ok (.putfield 186, 3) := by decide +kernel
theorem dX12_law_117 : decode cX12_law 117 = .ok (.aload_n 0, 1) := by decide +kernel
theorem dX12_law_118 : decode cX12_law 118 = .ok (.iconst 0, 1) := by decide +kernel
theorem dX12_law_119 : decode cX12_law 119 = .ok (.putfield 92, 3) := by decide +kernel
theorem dX12_law_122 : decode cX12_law 122 = .ok (.aload_n 0, 1) := by decide +kernel
theorem dX12_law_123 : decode cX12_law 123 = .ok (.aload_n 0, 1) := by decide +kernel
theorem dX12_law_124 : decode cX12_law 124 = .ok (.getfield 223, 3) := by decide +kernel
theorem dX12_law_127 : decode cX12_law 127 = .ok (.i2l, 1) := by decide +kernel
theorem dX12_law_128 : decode cX12_law 128 = .ok (.invokevirtual 236, 3) := by decide +kernel
theorem dX12_law_131 : decode cX12_law 131 = .ok (.aload_n 0, 1) := by decide +kernel
theorem dX12_law_132 : decode cX12_law 132 = .ok (.iload_n 2, 1) := by decide +kernel
theorem dX12_law_133 : decode cX12_law 133 = .ok (.i2l, 1) := by decide +kernel
theorem dX12_law_134 : decode cX12_law 134 = .ok (.invokevirtual 236, 3) := by decide +kernel
theorem dX12_law_137 : decode cX12_law 137 = .ok (.aload_n 0, 1) := by decide +kernel
theorem dX12_law_138 : decode cX12_law 138 = .ok (.aload_n 0, 1) := by decide +kernel
theorem dX12_law_139 : decode cX12_law 139 = .ok (.getfield 42, 3) := by decide +kernel
theorem dX12_law_142 : decode cX12_law 142 = .ok (.bipush 29, 2) := by decide +kernel
theorem dX12_law_144 : decode cX12_law 144 = .ok (.iaload, 1) := by decide +kernel
theorem dX12_law_145 : decode cX12_law 145 = .ok (.i2l, 1) := by decide +kernel
theorem dX12_law_146 : decode cX12_law 146 = .ok (.invokevirtual 236, 3) := by decide +kernel
theorem dX12_law_149 : decode cX12_law 149 = .ok (.aload_n 0, 1) := by decide +kernel
theorem dX12_law_150 : decode cX12_law 150 = .ok (.iload_n 3, 1) := by decide +kernel
theorem dX12_law_151 : decode cX12_law 151 = .ok (.i2l, 1) := by decide +kernel
theorem dX12_law_152 : decode cX12_law 152 = .ok (.invokevirtual 236, 3) := by decide +kernel
theorem dX12_law_155 : decode cX12_law 155 = .ok (.aload_n 0, 1) := by decide +kernel
theorem dX12_law_156 : decode cX12_law 156 = .ok (.getfield 223, 3) := by decide +kernel
theorem dX12_law_159 : decode cX12_law 159 = .ok (.iload_n 2, 1) := by decide +kernel
theorem dX12_law_160 : decode cX12_law 160 = .ok (.isub, 1) := by decide +kernel
theorem dX12_law_161 : decode cX12_law 161 = .ok (.ireturn, 1) := by decide +kernel
theorem dX12_draw_0 : decode cX12_draw 0 = .ok (.aload_n 0, 1) := by decide +kernel
theorem dX12_draw_1 : decode cX12_draw 1 = .ok (.aload_n 0, 1) := by decide +kernel
theorem dX12_draw_2 : decode cX12_draw 2 = .ok (.getfield 352, 3) := by decide +kernel
theorem dX12_draw_5 : decode cX12_draw 5 = .ok (.ldc_w 355, 3) := by decide +kernel
theorem dX12_draw_8 : decode cX12_draw 8 = .ok (.imul, 1) := by decide +kernel
theorem dX12_draw_9 : decode cX12_draw 9 = .ok (.sipush 12345, 3) := by decide +kernel
theorem dX12_draw_12 : decode cX12_draw 12 = .ok (.iadd, 1) := by decide +kernel
theorem dX12_draw_13 : decode cX12_draw 13 = .ok (.putfield 352, 3) := by decide +kernel
theorem dX12_draw_16 : decode cX12_draw 16 = .ok (.aload_n 0, 1) := by decide +kernel
theorem dX12_draw_17 : decode cX12_draw 17 = .ok (.getfield 352, 3) := by decide +kernel
theorem dX12_draw_20 : decode cX12_draw 20 = .ok (.bipush 16, 2) := by decide +kernel
theorem dX12_draw_22 : decode cX12_draw 22 = .ok (.iushr, 1) := by decide +kernel
theorem dX12_draw_23 : decode cX12_draw 23 = .ok (.iload_n 1, 1) := by decide +kernel
theorem dX12_draw_24 : decode cX12_draw 24 = .ok (.irem, 1) := by decide +kernel
theorem dX12_draw_25 : decode cX12_draw 25 = .ok (.ireturn, 1) := by decide +kernel
theorem dX12_years_0 : decode cX12_years 0 = .ok (.aload_n 0, 1) := by decide +kernel
theorem dX12_years_1 : decode cX12_years 1 = .ok (.iconst 0, 1) := by decide +kernel
theorem dX12_years_2 : decode cX12_years 2 = .ok (.putfield 88, 3) := by decide +kernel
theorem dX12_years_5 : decode cX12_years 5 = .ok (.iload_n 2, 1) := by decide +kernel
theorem dX12_years_6 : decode cX12_years 6 = .ok (.iconst 1, 1) := by decide +kernel
theorem dX12_years_7 : decode cX12_years 7 = .ok (.bipush 60, 2) := by decide +kernel
theorem dX12_years_9 : decode cX12_years 9 = .ok (.invokestatic 98, 3) := by decide +kernel
theorem dX12_years_12 : decode cX12_years 12 = .ok (.ifCond .ne 5, 3) := by decide +kernel
theorem dX12_years_15 : decode cX12_years 15 = .ok (.iconst (-1), 1) := by decide +kernel
theorem dX12_years_16 : decode cX12_years 16 = .ok (.ireturn, 1) := by decide +kernel
theorem dX12_years_17 : decode cX12_years 17 = .ok (.aload_n 0, 1) := by decide +kernel
theorem dX12_years_18 : decode cX12_years 18 = .ok (.iload_n 1, 1) := by decide +kernel
theorem dX12_years_19 : decode cX12_years 19 = .ok (.putfield 352, 3) := by decide +kernel
theorem dX12_years_22 : decode cX12_years 22 = .ok (.aload_n 0, 1) := by decide +kernel
theorem dX12_years_23 : decode cX12_years 23 = .ok (.getfield 9, 3) := by decide +kernel
theorem dX12_years_26 : decode cX12_years 26 = .ok (.aload_n 0, 1) := by decide +kernel
theorem dX12_years_27 : decode cX12_years 27 = .ok (.getfield 42, 3) := by decide +kernel
theorem dX12_years_30 : decode cX12_years 30 = .ok (.iconst 0, 1) := by decide +kernel
theorem dX12_years_31 : decode cX12_years 31 = .ok (.invokestatic 219, 3) := by decide +kernel
theorem dX12_years_34 : decode cX12_years 34 = .ok (.aload_n 0, 1) := by decide +kernel
theorem dX12_years_35 : decode cX12_years 35 = .ok (.iconst 0, 1) := by decide +kernel
theorem dX12_years_36 : decode cX12_years 36 = .ok (.putfield 223, 3) := by decide +kernel
theorem dX12_years_39 : decode cX12_years 39 = .ok (.iconst 0, 1) := by decide +kernel
theorem dX12_years_40 : decode cX12_years 40 = .ok (.istore_n 3, 1) := by decide +kernel
theorem dX12_years_41 : decode cX12_years 41 = .ok (.iload_n 3, 1) := by decide +kernel
theorem dX12_years_42 : decode cX12_years 42 = .ok (.iload_n 2, 1) := by decide +kernel
theorem dX12_years_43 : decode cX12_years 43 = .ok (.if_icmp .ge 124, 3) := by decide +kernel
theorem dX12_years_46 : decode cX12_years 46 = .ok (.aload_n 0, 1) := by decide +kernel
theorem dX12_years_47 : decode cX12_years 47 = .ok (.iconst 4, 1) := by decide +kernel
theorem dX12_years_48 : decode cX12_years 48 = .ok (.invokevirtual 356, 3) := by decide +kernel
theorem dX12_years_51 : decode cX12_years 51 = .ok (.istore 4, 2) := by decide +kernel
theorem dX12_years_53 : decode cX12_years 53 = .ok (.iload 4, 2) := by decide +kernel
theorem dX12_years_55 : decode cX12_years 55 = .ok (.iconst 2, 1) := by decide +kernel
theorem dX12_years_56 : decode cX12_years 56 = .ok (.if_icmp .ge 11, 3) := by decide +kernel
theorem dX12_years_59 : decode cX12_years 59 = .ok (.aload_n 0, 1) := by decide +kernel
theorem dX12_years_60 : decode cX12_years 60 = .ok (.aload_n 0, 1) := by decide +kernel
theorem dX12_years_61 : decode cX12_years 61 = .ok (.getfield 42, 3) := by decide +kernel
theorem dX12_years_64 : decode cX12_years 64 = .ok (.invokevirtual 230, 3) := by decide +kernel
theorem dX12_years_67 : decode cX12_years 67 = .ok (.iload 4, 2) := by decide +kernel
theorem dX12_years_69 : decode cX12_years 69 = .ok (.iconst 2, 1) := by decide +kernel
theorem dX12_years_70 : decode cX12_years 70 = .ok (.if_icmp .lt 91, 3) := by decide +kernel
theorem dX12_years_73 : decode cX12_years 73 = .ok (.aload_n 0, 1) := by decide +kernel
theorem dX12_years_74 : decode cX12_years 74 = .ok (.getfield 95, 3) := by decide +kernel
theorem dX12_years_77 : decode cX12_years 77 = .ok (.ifCond .ne 6, 3) := by decide +kernel
theorem dX12_years_80 : decode cX12_years 80 = .ok (.goto 81, 3) := by decide +kernel
theorem dX12_years_83 : decode cX12_years 83 = .ok (.aload_n 0, 1) := by decide +kernel
theorem dX12_years_84 : decode cX12_years 84 = .ok (.aload_n 0, 1) := by decide +kernel
theorem dX12_years_85 : decode cX12_years 85 = .ok (.getfield 95, 3) := by decide +kernel
theorem dX12_years_88 : decode cX12_years 88 = .ok (.invokevirtual 356, 3) := by decide +kernel
theorem dX12_years_91 : decode cX12_years 91 = .ok (.istore 5, 2) := by decide +kernel
theorem dX12_years_93 : decode cX12_years 93 = .ok (.iload 4, 2) := by decide +kernel
theorem dX12_years_95 : decode cX12_years 95 = .ok (.iconst 2, 1) := by decide +kernel
theorem dX12_years_96 : decode cX12_years 96 = .ok (.if_icmp .ne 30, 3) := by decide +kernel
theorem dX12_years_99 : decode cX12_years 99 = .ok (.aload_n 0, 1) := by decide +kernel
theorem dX12_years_100 : decode cX12_years 100 = .ok (.aload_n 0, 1) := by decide +kernel
theorem dX12_years_101 : decode cX12_years 101 = .ok (.getfield 42, 3) := by decide +kernel
theorem dX12_years_104 : decode cX12_years 104 = .ok (.iload 5, 2) := by decide +kernel
theorem dX12_years_106 : decode cX12_years 106 = .ok (.invokevirtual 249, 3) := by decide +kernel
theorem dX12_years_109 : decode cX12_years 109 = .ok (.ifCond .ne 52, 3) := by decide +kernel
theorem dX12_years_112 : decode cX12_years 112 = .ok (.aload_n 0, 1) := by decide +kernel
theorem dX12_years_113 : decode cX12_years 113 = .ok (.getfield 42, 3) := by decide +kernel
theorem dX12_years_116 : decode cX12_years 116 = .ok (.bipush 7, 2) := by decide +kernel
theorem dX12_years_118 : decode cX12_years 118 = .ok (.iload 5, 2) := by decide +kernel
theorem dX12_years_120 : decode cX12_years 120 = .ok (.iadd, 1) := by decide +kernel
theorem dX12_years_121 : decode cX12_years 121 = .ok (.iconst 1, 1) := by decide +kernel
theorem dX12_years_122 : decode cX12_years 122 = .ok (.iastore, 1) := by decide +kernel
theorem dX12_years_123 : decode cX12_years 123 = .ok (.goto 38, 3) := by decide +kernel
theorem dX12_years_126 : decode cX12_years 126 = .ok (.iconst 1, 1) := by decide +kernel
theorem dX12_years_127 : decode cX12_years 127 = .ok (.aload_n 0, 1) := by decide +kernel
theorem dX12_years_128 : decode cX12_years 128 = .ok (.iconst 3, 1) := by decide +kernel
theorem dX12_years_129 : decode cX12_years 129 = .ok (.invokevirtual 356, 3) := by decide +kernel
theorem dX12_years_132 : decode cX12_years 132 = .ok (.iadd, 1) := by decide +kernel
theorem dX12_years_133 : decode cX12_years 133 = .ok (.istore 6, 2) := by decide +kernel
theorem dX12_years_135 : decode cX12_years 135 = .ok (.aload_n 0, 1) := by decide +kernel
theorem dX12_years_136 : decode cX12_years 136 = .ok (.aload_n 0, 1) := by decide +kernel
theorem dX12_years_137 : decode cX12_years 137 = .ok (.getfield 42, 3) := by decide +kernel
theorem dX12_years_140 : decode cX12_years 140 = .ok (.iload 5, 2) := by decide +kernel
theorem dX12_years_142 : decode cX12_years 142 = .ok (.iload 6, 2) := by decide +kernel
theorem dX12_years_144 : decode cX12_years 144 = .ok (.invokevirtual 263, 3) := by decide +kernel
theorem dX12_years_147 : decode cX12_years 147 = .ok (.ifCond .ne 14, 3) := by decide +kernel
theorem dX12_years_150 : decode cX12_years 150 = .ok (.aload_n 0, 1) := by decide +kernel
theorem dX12_years_151 : decode cX12_years 151 = .ok (.getfield 42, 3) := by decide +kernel
theorem dX12_years_154 : decode cX12_years 154 = .ok (.iload 5, 2) := by decide +kernel
theorem dX12_years_156 : decode cX12_years 156 = .ok (.iload 6, 2) := by decide +kernel
theorem dX12_years_158 : decode cX12_years 158 = .ok (.invokestatic 267, 3) := by decide +kernel
theorem dX12_years_161 : decode cX12_years 161 = .ok (.iinc 3 1, 3) := by decide +kernel
theorem dX12_years_164 : decode cX12_years 164 = .ok (.goto (-123), 3) := by decide +kernel
theorem dX12_years_167 : decode cX12_years 167 = .ok (.aload_n 0, 1) := by decide +kernel
theorem dX12_years_168 : decode cX12_years 168 = .ok (.iconst 0, 1) := by decide +kernel
theorem dX12_years_169 : decode cX12_years 169 = .ok (.putfield 92, 3) := by decide +kernel
theorem dX12_years_172 : decode cX12_years 172 = .ok (.aload_n 0, 1) := by decide +kernel
theorem dX12_years_173 : decode cX12_years 173 = .ok (.aload_n 0, 1) := by decide +kernel
theorem dX12_years_174 : decode cX12_years 174 = .ok (.getfield 223, 3) := by decide +kernel
theorem dX12_years_177 : decode cX12_years 177 = .ok (.i2l, 1) := by decide +kernel
theorem dX12_years_178 : decode cX12_years 178 = .ok (.invokevirtual 236, 3) := by decide +kernel
theorem dX12_years_181 : decode cX12_years 181 = .ok (.aload_n 0, 1) := by decide +kernel
theorem dX12_years_182 : decode cX12_years 182 = .ok (.aload_n 0, 1) := by decide +kernel
theorem dX12_years_183 : decode cX12_years 183 = .ok (.aload_n 0, 1) := by decide +kernel
theorem dX12_years_184 : decode cX12_years 184 = .ok (.getfield 42, 3) := by decide +kernel
theorem dX12_years_187 : decode cX12_years 187 = .ok (.invokevirtual 240, 3) := by decide +kernel
theorem dX12_years_190 : decode cX12_years 190 = .ok (.invokestatic 244, 3) := by decide +kernel
theorem dX12_years_193 : decode cX12_years 193 = .ok (.i2l, 1) := by decide +kernel
theorem dX12_years_194 : decode cX12_years 194 = .ok (.invokevirtual 236, 3) := by decide +kernel
theorem dX12_years_197 : decode cX12_years 197 = .ok (.aload_n 0, 1) := by decide +kernel
theorem dX12_years_198 : decode cX12_years 198 = .ok (.getfield 42, 3) := by decide +kernel
theorem dX12_years_201 : decode cX12_years 201 = .ok (.bipush 29, 2) := by decide +kernel
theorem dX12_years_203 : decode cX12_years 203 = .ok (.iaload, 1) := by decide +kernel
theorem dX12_years_204 : decode cX12_years 204 = .ok (.ireturn, 1) := by decide +kernel
theorem dX12_keep_0 : decode cX12_keep 0 = .ok (.aload_n 0, 1) := by decide +kernel
theorem dX12_keep_1 : decode cX12_keep 1 = .ok (.iconst 0, 1) := by decide +kernel
theorem dX12_keep_2 : decode cX12_keep 2 = .ok (.putfield 88, 3) := by decide +kernel
theorem dX12_keep_5 : decode cX12_keep 5 = .ok (.iload_n 1, 1) := by decide +kernel
theorem dX12_keep_6 : decode cX12_keep 6 = .ok (.iconst 0, 1) := by decide +kernel
theorem dX12_keep_7 : decode cX12_keep 7 = .ok (.iconst 1, 1) := by decide +kernel
theorem dX12_keep_8 : decode cX12_keep 8 = .ok (.invokestatic 98, 3) := by decide +kernel
theorem dX12_keep_11 : decode cX12_keep 11 = .ok (.ifCond .ne 5, 3) := by decide +kernel
theorem dX12_keep_14 : decode cX12_keep 14 = .ok (.iconst 0, 1) := by decide +kernel
theorem dX12_keep_15 : decode cX12_keep 15 = .ok (.ireturn, 1) := by decide +kernel
theorem dX12_keep_16 : decode cX12_keep 16 = .ok (.aload_n 0, 1) := by decide +kernel
theorem dX12_keep_17 : decode cX12_keep 17 = .ok (.getfield 82, 3) := by decide +kernel
theorem dX12_keep_20 : decode cX12_keep 20 = .ok (.iload_n 1, 1) := by decide +kernel
theorem dX12_keep_21 : decode cX12_keep 21 = .ok (.iconst 1, 1) := by decide +kernel
theorem dX12_keep_22 : decode cX12_keep 22 = .ok (.bastore, 1) := by decide +kernel
theorem dX12_keep_23 : decode cX12_keep 23 = .ok (.aload_n 0, 1) := by decide +kernel
theorem dX12_keep_24 : decode cX12_keep 24 = .ok (.getfield 85, 3) := by decide +kernel
theorem dX12_keep_27 : decode cX12_keep 27 = .ok (.iload_n 1, 1) := by decide +kernel
theorem dX12_keep_28 : decode cX12_keep 28 = .ok (.aload_n 0, 1) := by decide +kernel
theorem dX12_keep_29 : decode cX12_keep 29 = .ok (.getfield 153, 3) := by decide +kernel
theorem dX12_keep_32 : decode cX12_keep 32 = .ok (.iastore, 1) := by decide +kernel
theorem dX12_keep_33 : decode cX12_keep 33 = .ok (.aload_n 0, 1) := by decide +kernel
theorem dX12_keep_34 : decode cX12_keep 34 = .ok (.getfield 9, 3) := by decide +kernel
theorem dX12_keep_37 : decode cX12_keep 37 = .ok (.aload_n 0, 1) := by decide +kernel
theorem dX12_keep_38 : decode cX12_keep 38 = .ok (.getfield 79, 3) := by decide +kernel
theorem dX12_keep_41 : decode cX12_keep 41 = .ok (.bipush 32, 2) := by decide +kernel
theorem dX12_keep_43 : decode cX12_keep 43 = .ok (.iload_n 1, 1) := by decide +kernel
theorem dX12_keep_44 : decode cX12_keep 44 = .ok (.imul, 1) := by decide +kernel
theorem dX12_keep_45 : decode cX12_keep 45 = .ok (.invokestatic 219, 3) := by decide +kernel
theorem dX12_keep_48 : decode cX12_keep 48 = .ok (.iconst 1, 1) := by decide +kernel
theorem dX12_keep_49 : decode cX12_keep 49 = .ok (.ireturn, 1) := by decide +kernel
theorem dX12_again_0 : decode cX12_again 0 = .ok (.aload_n 0, 1) := by decide +kernel
theorem dX12_again_1 : decode cX12_again 1 = .ok (.iconst 0, 1) := by decide +kernel
theorem dX12_again_2 : decode cX12_again 2 = .ok (.putfield 88, 3) := by decide +kernel
theorem dX12_again_5 : decode cX12_again 5 = .ok (.iload_n 1, 1) := by decide +kernel
theorem dX12_again_6 : decode cX12_again 6 = .ok (.iconst 0, 1) := by decide +kernel
theorem dX12_again_7 : decode cX12_again 7 = .ok (.iconst 1, 1) := by decide +kernel
theorem dX12_again_8 : decode cX12_again 8 = .ok (.invokestatic 98, 3) := by decide +kernel
theorem dX12_again_11 : decode cX12_again 11 = .ok (.ifCond .eq 25, 3) := by decide +kernel
theorem dX12_again_14 : decode cX12_again 14 = .ok (.aload_n 0, 1) := by decide +kernel
theorem dX12_again_15 : decode cX12_again 15 = .ok (.getfield 82, 3) := by decide +kernel
theorem dX12_again_18 : decode cX12_again 18 = .ok (.iload_n 1, 1) := by decide +kernel
theorem dX12_again_19 : decode cX12_again 19 = .ok (.baload, 1) := by decide +kernel
theorem dX12_again_20 : decode cX12_again 20 = .ok (.ifCond .eq 16, 3) := by decide +kernel
theorem dX12_again_23 : decode cX12_again 23 = .ok (.aload_n 0, 1) := by decide +kernel
theorem dX12_again_24 : decode cX12_again 24 = .ok (.getfield 85, 3) := by decide +kernel
theorem dX12_again_27 : decode cX12_again 27 = .ok (.iload_n 1, 1) := by decide +kernel
theorem dX12_again_28 : decode cX12_again 28 = .ok (.iaload, 1) := by decide +kernel
theorem dX12_again_29 : decode cX12_again 29 = .ok (.aload_n 0, 1) := by decide +kernel
theorem dX12_again_30 : decode cX12_again 30 = .ok (.getfield 153, 3) := by decide +kernel
theorem dX12_again_33 : decode cX12_again 33 = .ok (.if_icmp .eq 5, 3) := by decide +kernel
theorem dX12_again_36 : decode cX12_again 36 = .ok (.iconst 0, 1) := by decide +kernel
theorem dX12_again_37 : decode cX12_again 37 = .ok (.ireturn, 1) := by decide +kernel
theorem dX12_again_38 : decode cX12_again 38 = .ok (.iconst 0, 1) := by decide +kernel
theorem dX12_again_39 : decode cX12_again 39 = .ok (.istore_n 2, 1) := by decide +kernel
theorem dX12_again_40 : decode cX12_again 40 = .ok (.iload_n 2, 1) := by decide +kernel
theorem dX12_again_41 : decode cX12_again 41 = .ok (.bipush 32, 2) := by decide +kernel
theorem dX12_again_43 : decode cX12_again 43 = .ok (.if_icmp .ge 26, 3) := by decide +kernel
theorem dX12_again_46 : decode cX12_again 46 = .ok (.aload_n 0, 1) := by decide +kernel
theorem dX12_again_47 : decode cX12_again 47 = .ok (.getfield 9, 3) := by decide +kernel
theorem dX12_again_50 : decode cX12_again 50 = .ok (.iload_n 2, 1) := by decide +kernel
theorem dX12_again_51 : decode cX12_again 51 = .ok (.aload_n 0, 1) := by decide +kernel
theorem dX12_again_52 : decode cX12_again 52 = .ok (.getfield 79, 3) := by decide +kernel
theorem dX12_again_55 : decode cX12_again 55 = .ok (.bipush 32, 2) := by decide +kernel
theorem dX12_again_57 : decode cX12_again 57 = .ok (.iload_n 1, 1) := by decide +kernel
theorem dX12_again_58 : decode cX12_again 58 = .ok (.imul, 1) := by decide +kernel
theorem dX12_again_59 : decode cX12_again 59 = .ok (.iload_n 2, 1) := by decide +kernel
theorem dX12_again_60 : decode cX12_again 60 = .ok (.iadd, 1) := by decide +kernel
theorem dX12_again_61 : decode cX12_again 61 = .ok (.iaload, 1) := by decide +kernel
theorem dX12_again_62 : decode cX12_again 62 = .ok (.iastore, 1) := by decide +kernel
theorem dX12_again_63 : decode cX12_again 63 = .ok (.iinc 2 1, 3) := by decide +kernel
theorem dX12_again_66 : decode cX12_again 66 = .ok (.goto (-26), 3) := by decide +kernel
theorem dX12_again_69 : decode cX12_again 69 = .ok (.aload_n 0, 1) := by decide +kernel
theorem dX12_again_70 : decode cX12_again 70 = .ok (.iconst 0, 1) := by decide +kernel
theorem dX12_again_71 : decode cX12_again 71 = .ok (.putfield 150, 3) := by decide +kernel
theorem dX12_again_74 : decode cX12_again 74 = .ok (.iconst 1, 1) := by decide +kernel
theorem dX12_again_75 : decode cX12_again 75 = .ok (.ireturn, 1) := by decide +kernel
theorem dX12_sumOf_0 : decode cX12_sumOf 0 = .ok (.iconst 0, 1) := by decide +kernel
theorem dX12_sumOf_1 : decode cX12_sumOf 1 = .ok (.istore_n 2, 1) := by decide +kernel
theorem dX12_sumOf_2 : decode cX12_sumOf 2 = .ok (.iconst 0, 1) := by decide +kernel
theorem dX12_sumOf_3 : decode cX12_sumOf 3 = .ok (.istore_n 3, 1) := by decide +kernel
theorem dX12_sumOf_4 : decode cX12_sumOf 4 = .ok (.iload_n 3, 1) := by decide +kernel
theorem dX12_sumOf_5 : decode cX12_sumOf 5 = .ok (.aload_n 0, 1) := by decide +kernel
theorem dX12_sumOf_6 : decode cX12_sumOf 6 = .ok (.getfield 95, 3) := by decide +kernel
theorem dX12_sumOf_9 : decode cX12_sumOf 9 = .ok (.if_icmp .ge 20, 3) := by decide +kernel
theorem dX12_sumOf_12 : decode cX12_sumOf 12 = .ok (.iload_n 2, 1) := by decide +kernel
theorem dX12_sumOf_13 : decode cX12_sumOf 13 = .ok (.aload_n 0, 1) := by decide +kernel
theorem dX12_sumOf_14 : decode cX12_sumOf 14 = .ok (.getfield 9, 3) := by decide +kernel
theorem dX12_sumOf_17 : decode cX12_sumOf 17 = .ok (.iload_n 1, 1) := by decide +kernel
theorem dX12_sumOf_18 : decode cX12_sumOf 18 = .ok (.iload_n 3, 1) := by decide +kernel
theorem dX12_sumOf_19 : decode cX12_sumOf 19 = .ok (.iadd, 1) := by decide +kernel
theorem dX12_sumOf_20 : decode cX12_sumOf 20 = .ok (.iaload, 1) := by decide +kernel
theorem dX12_sumOf_21 : decode cX12_sumOf 21 = .ok (.iadd, 1) := by decide +kernel
theorem dX12_sumOf_22 : decode cX12_sumOf 22 = .ok (.istore_n 2, 1) := by decide +kernel
theorem dX12_sumOf_23 : decode cX12_sumOf 23 = .ok (.iinc 3 1, 3) := by decide +kernel
theorem dX12_sumOf_26 : decode cX12_sumOf 26 = .ok (.goto (-22), 3) := by decide +kernel
theorem dX12_sumOf_29 : decode cX12_sumOf 29 = .ok (.iload_n 2, 1) := by decide +kernel
theorem dX12_sumOf_30 : decode cX12_sumOf 30 = .ok (.ireturn, 1) := by decide +kernel
theorem dX12_waiting_0 : decode cX12_waiting 0 = .ok (.iconst 0, 1) := by decide +kernel
theorem dX12_waiting_1 : decode cX12_waiting 1 = .ok (.istore_n 1, 1) := by decide +kernel
theorem dX12_waiting_2 : decode cX12_waiting 2 = .ok (.iconst 0, 1) := by decide +kernel
theorem dX12_waiting_3 : decode cX12_waiting 3 = .ok (.istore_n 2, 1) := by decide +kernel
theorem dX12_waiting_4 : decode cX12_waiting 4 = .ok (.iload_n 2, 1) := by decide +kernel
theorem dX12_waiting_5 : decode cX12_waiting 5 = .ok (.aload_n 0, 1) := by decide +kernel
theorem dX12_waiting_6 : decode cX12_waiting 6 = .ok (.getfield 95, 3) := by decide +kernel
theorem dX12_waiting_9 : decode cX12_waiting 9 = .ok (.if_icmp .ge 31, 3) := by decide +kernel
theorem dX12_waiting_12 : decode cX12_waiting 12 = .ok (.iload_n 1, 1) := by decide +kernel
theorem dX12_waiting_13 : decode cX12_waiting 13 = .ok (.aload_n 0, 1) := by decide +kernel
theorem dX12_waiting_14 : decode cX12_waiting 14 = .ok (.getfield 9, 3) := by decide +kernel
theorem dX12_waiting_17 : decode cX12_waiting 17 = .ok (.bipush 14, 2) := by decide +kernel
theorem dX12_waiting_19 : decode cX12_waiting 19 = .ok (.iload_n 2, 1) := by decide +kernel
theorem dX12_waiting_20 : decode cX12_waiting 20 = .ok (.iadd, 1) := by decide +kernel
theorem dX12_waiting_21 : decode cX12_waiting 21 = .ok (.iaload, 1) := by decide +kernel
theorem dX12_waiting_22 : decode cX12_waiting 22 = .ok (.ifCond .le 9, 3) := by decide +kernel
theorem dX12_waiting_25 : decode cX12_waiting 25 = .ok (.iconst 1, 1) := by decide +kernel
theorem dX12_waiting_26 : decode cX12_waiting 26 = .ok (.iload_n 2, 1) := by decide +kernel
theorem dX12_waiting_27 : decode cX12_waiting 27 = .ok (.ishl, 1) := by decide +kernel
theorem dX12_waiting_28 : decode cX12_waiting 28 = .ok (.goto 4, 3) := by decide +kernel
theorem dX12_waiting_31 : decode cX12_waiting 31 = .ok (.iconst 0, 1) := by decide +kernel
theorem dX12_waiting_32 : decode cX12_waiting 32 = .ok (.ior, 1) := by decide +kernel
theorem dX12_waiting_33 : decode cX12_waiting 33 = .ok (.istore_n 1, 1) := by decide +kernel
theorem dX12_waiting_34 : decode cX12_waiting 34 = .ok (.iinc 2 1, 3) := by decide +kernel
theorem dX12_waiting_37 : decode cX12_waiting 37 = .ok (.goto (-33), 3) := by decide +kernel
theorem dX12_waiting_40 : decode cX12_waiting 40 = .ok (.iload_n 1, 1) := by decide +kernel
theorem dX12_waiting_41 : decode cX12_waiting 41 = .ok (.ireturn, 1) := by decide +kernel
theorem dX12_count_0 : decode cX12_count 0 = .ok (.aload_n 0, 1) := by decide +kernel
theorem dX12_count_1 : decode cX12_count 1 = .ok (.iconst 0, 1) := by decide +kernel
theorem dX12_count_2 : decode cX12_count 2 = .ok (.putfield 88, 3) := by decide +kernel
theorem dX12_count_5 : decode cX12_count 5 = .ok (.iload_n 1, 1) := by decide +kernel
theorem dX12_count_6 : decode cX12_count 6 = .ok (.tableswitch 179 0 15 #[78, 83, 91, 99, 107, 115, 124, 130, 137, 142, 147, 152, 157, 162, 169, 174], 78) := by decide +kernel
theorem dX12_count_84 : decode cX12_count 84 = .ok (.aload_n 0, 1) := by decide +kernel
theorem dX12_count_85 : decode cX12_count 85 = .ok (.getfield 95, 3) := by decide +kernel
theorem dX12_count_88 : decode cX12_count 88 = .ok (.ireturn, 1) := by decide +kernel
theorem dX12_count_89 : decode cX12_count 89 = .ok (.aload_n 0, 1) := by decide +kernel
theorem dX12_count_90 : decode cX12_count 90 = .ok (.getfield 9, 3) := by decide +kernel
theorem dX12_count_93 : decode cX12_count 93 = .ok (.bipush 28, 2) := by decide +kernel
theorem dX12_count_95 : decode cX12_count 95 = .ok (.iaload, 1) := by decide +kernel
theorem dX12_count_96 : decode cX12_count 96 = .ok (.ireturn, 1) := by decide +kernel
theorem dX12_count_97 : decode cX12_count 97 = .ok (.aload_n 0, 1) := by decide +kernel
theorem dX12_count_98 : decode cX12_count 98 = .ok (.getfield 9, 3) := by decide +kernel
theorem dX12_count_101 : decode cX12_count 101 = .ok (.bipush 29, 2) := by decide +kernel
theorem dX12_count_103 : decode cX12_count 103 = .ok (.iaload, 1) := by decide +kernel
theorem dX12_count_104 : decode cX12_count 104 = .ok (.ireturn, 1) := by decide +kernel
theorem dX12_count_105 : decode cX12_count 105 = .ok (.aload_n 0, 1) := by decide +kernel
theorem dX12_count_106 : decode cX12_count 106 = .ok (.getfield 9, 3) := by decide +kernel
theorem dX12_count_109 : decode cX12_count 109 = .ok (.bipush 30, 2) := by decide +kernel
theorem dX12_count_111 : decode cX12_count 111 = .ok (.iaload, 1) := by decide +kernel
theorem dX12_count_112 : decode cX12_count 112 = .ok (.ireturn, 1) := by decide +kernel
theorem dX12_count_113 : decode cX12_count 113 = .ok (.aload_n 0, 1) := by decide +kernel
theorem dX12_count_114 : decode cX12_count 114 = .ok (.getfield 9, 3) := by decide +kernel
theorem dX12_count_117 : decode cX12_count 117 = .ok (.bipush 31, 2) := by decide +kernel
theorem dX12_count_119 : decode cX12_count 119 = .ok (.iaload, 1) := by decide +kernel
theorem dX12_count_120 : decode cX12_count 120 = .ok (.ireturn, 1) := by decide +kernel
theorem dX12_count_121 : decode cX12_count 121 = .ok (.aload_n 0, 1) := by decide +kernel
theorem dX12_count_122 : decode cX12_count 122 = .ok (.aload_n 0, 1) := by decide +kernel
theorem dX12_count_123 : decode cX12_count 123 = .ok (.getfield 9, 3) := by decide +kernel
theorem dX12_count_126 : decode cX12_count 126 = .ok (.invokevirtual 240, 3) := by decide +kernel
theorem dX12_count_129 : decode cX12_count 129 = .ok (.ireturn, 1) := by decide +kernel
theorem dX12_count_130 : decode cX12_count 130 = .ok (.aload_n 0, 1) := by decide +kernel
theorem dX12_count_131 : decode cX12_count 131 = .ok (.iconst 0, 1) := by decide +kernel
theorem dX12_count_132 : decode cX12_count 132 = .ok (.invokevirtual 359, 3) := by decide +kernel
theorem dX12_count_135 : decode cX12_count 135 = .ok (.ireturn, 1) := by decide +kernel
theorem dX12_count_136 : decode cX12_count 136 = .ok (.aload_n 0, 1) := by decide +kernel
theorem dX12_count_137 : decode cX12_count 137 = .ok (.bipush 21, 2) := by decide +kernel
theorem dX12_count_139 : decode cX12_count 139 = .ok (.invokevirtual 359, 3) := by decide +kernel
theorem dX12_count_142 : decode cX12_count 142 = .ok (.ireturn, 1) := by decide +kernel
theorem dX12_count_143 : decode cX12_count 143 = .ok (.aload_n 0, 1) := by decide +kernel
theorem dX12_count_144 : decode cX12_count 144 = .ok (.getfield 314, 3) := by decide +kernel
theorem dX12_count_147 : decode cX12_count 147 = .ok (.ireturn, 1) := by decide +kernel
theorem dX12_count_148 : decode cX12_count 148 = .ok (.aload_n 0, 1) := by decide +kernel
theorem dX12_count_149 : decode cX12_count 149 = .ok (.getfield 323, 3) := by decide +kernel
theorem dX12_count_152 : decode cX12_count 152 = .ok (.ireturn, 1) := by decide +kernel
theorem dX12_count_153 : decode cX12_count 153 = .ok (.aload_n 0, 1) := by decide +kernel
theorem dX12_count_154 : decode cX12_count 154 = .ok (.getfield 150, 3) := by decide +kernel
theorem dX12_count_157 : decode cX12_count 157 = .ok (.ireturn, 1) := by decide +kernel
theorem dX12_count_158 : decode cX12_count 158 = .ok (.aload_n 0, 1) := by decide +kernel
theorem dX12_count_159 : decode cX12_count 159 = .ok (.getfield 92, 3) := by decide +kernel
theorem dX12_count_162 : decode cX12_count 162 = .ok (.ireturn, 1) := by decide +kernel
theorem dX12_count_163 : decode cX12_count 163 = .ok (.aload_n 0, 1) := by decide +kernel
theorem dX12_count_164 : decode cX12_count 164 = .ok (.getfield 102, 3) := by decide +kernel
theorem dX12_count_167 : decode cX12_count 167 = .ok (.ireturn, 1) := by decide +kernel
theorem dX12_count_168 : decode cX12_count 168 = .ok (.aload_n 0, 1) := by decide +kernel
theorem dX12_count_169 : decode cX12_count 169 = .ok (.bipush 14, 2) := by decide +kernel
theorem dX12_count_171 : decode cX12_count 171 = .ok (.invokevirtual 359, 3) := by decide +kernel
theorem dX12_count_174 : decode cX12_count 174 = .ok (.ireturn, 1) := by decide +kernel
theorem dX12_count_175 : decode cX12_count 175 = .ok (.aload_n 0, 1) := by decide +kernel
theorem dX12_count_176 : decode cX12_count 176 = .ok (.invokevirtual 216, 3) := by decide +kernel
theorem dX12_count_179 : decode cX12_count 179 = .ok (.ireturn, 1) := by decide +kernel
theorem dX12_count_180 : decode cX12_count 180 = .ok (.aload_n 0, 1) := by decide +kernel
theorem dX12_count_181 : decode cX12_count 181 = .ok (.invokevirtual 362, 3) := by decide +kernel
theorem dX12_count_184 : decode cX12_count 184 = .ok (.ireturn, 1) := by decide +kernel
theorem dX12_count_185 : decode cX12_count 185 = .ok (.iconst (-1), 1) := by decide +kernel
theorem dX12_count_186 : decode cX12_count 186 = .ok (.ireturn, 1) := by decide +kernel
theorem dX12_row_0 : decode cX12_row 0 = .ok (.aload_n 0, 1) := by decide +kernel
theorem dX12_row_1 : decode cX12_row 1 = .ok (.iconst 0, 1) := by decide +kernel
theorem dX12_row_2 : decode cX12_row 2 = .ok (.putfield 88, 3) := by decide +kernel
theorem dX12_row_5 : decode cX12_row 5 = .ok (.iload_n 1, 1) := by decide +kernel
theorem dX12_row_6 : decode cX12_row 6 = .ok (.iconst 0, 1) := by decide +kernel
theorem dX12_row_7 : decode cX12_row 7 = .ok (.aload_n 0, 1) := by decide +kernel
theorem dX12_row_8 : decode cX12_row 8 = .ok (.getfield 92, 3) := by decide +kernel
theorem dX12_row_11 : decode cX12_row 11 = .ok (.iconst 1, 1) := by decide +kernel
theorem dX12_row_12 : decode cX12_row 12 = .ok (.isub, 1) := by decide +kernel
theorem dX12_row_13 : decode cX12_row 13 = .ok (.invokestatic 98, 3) := by decide +kernel
theorem dX12_row_16 : decode cX12_row 16 = .ok (.ifCond .eq 12, 3) := by decide +kernel
theorem dX12_row_19 : decode cX12_row 19 = .ok (.aload_n 0, 1) := by decide +kernel
theorem dX12_row_20 : decode cX12_row 20 = .ok (.getfield 20, 3) := by decide +kernel
theorem dX12_row_23 : decode cX12_row 23 = .ok (.iload_n 1, 1) := by decide +kernel
theorem dX12_row_24 : decode cX12_row 24 = .ok (.laload, 1) := by decide +kernel
theorem dX12_row_25 : decode cX12_row 25 = .ok (.goto 8, 3) := by decide +kernel
theorem dX12_row_28 : decode cX12_row 28 = .ok (.aload_n 0, 1) := by decide +kernel
theorem dX12_row_29 : decode cX12_row 29 = .ok (.invokevirtual 209, 3) := by decide +kernel
theorem dX12_row_32 : decode cX12_row 32 = .ok (.i2l, 1) := by decide +kernel
theorem dX12_row_33 : decode cX12_row 33 = .ok (.lreturn, 1) := by decide +kernel
theorem dJ6_bitCount_0f7a4_0 : decode cJ6_bitCount_0f7a4 0 = .ok (.iload_n 0, 1) := by decide +kernel
theorem dJ6_bitCount_0f7a4_1 : decode cJ6_bitCount_0f7a4 1 = .ok (.iload_n 0, 1) := by decide +kernel
theorem dJ6_bitCount_0f7a4_2 : decode cJ6_bitCount_0f7a4 2 = .ok (.iconst 1, 1) := by decide +kernel
theorem dJ6_bitCount_0f7a4_3 : decode cJ6_bitCount_0f7a4 3 = .ok (.iushr, 1) := by decide +kernel
theorem dJ6_bitCount_0f7a4_4 : decode cJ6_bitCount_0f7a4 4 = .ok (.ldc_w 265, 3) := by decide +kernel
theorem dJ6_bitCount_0f7a4_7 : decode cJ6_bitCount_0f7a4 7 = .ok (.iand, 1) := by decide +kernel
theorem dJ6_bitCount_0f7a4_8 : decode cJ6_bitCount_0f7a4 8 = .ok (.isub, 1) := by decide +kernel
theorem dJ6_bitCount_0f7a4_9 : decode cJ6_bitCount_0f7a4 9 = .ok (.istore_n 0, 1) := by decide +kernel
theorem dJ6_bitCount_0f7a4_10 : decode cJ6_bitCount_0f7a4 10 = .ok (.iload_n 0, 1) := by decide +kernel
theorem dJ6_bitCount_0f7a4_11 : decode cJ6_bitCount_0f7a4 11 = .ok (.ldc_w 266, 3) := by decide +kernel
theorem dJ6_bitCount_0f7a4_14 : decode cJ6_bitCount_0f7a4 14 = .ok (.iand, 1) := by decide +kernel
theorem dJ6_bitCount_0f7a4_15 : decode cJ6_bitCount_0f7a4 15 = .ok (.iload_n 0, 1) := by decide +kernel
theorem dJ6_bitCount_0f7a4_16 : decode cJ6_bitCount_0f7a4 16 = .ok (.iconst 2, 1) := by decide +kernel
theorem dJ6_bitCount_0f7a4_17 : decode cJ6_bitCount_0f7a4 17 = .ok (.iushr, 1) := by decide +kernel
theorem dJ6_bitCount_0f7a4_18 : decode cJ6_bitCount_0f7a4 18 = .ok (.ldc_w 266, 3) := by decide +kernel
theorem dJ6_bitCount_0f7a4_21 : decode cJ6_bitCount_0f7a4 21 = .ok (.iand, 1) := by decide +kernel
theorem dJ6_bitCount_0f7a4_22 : decode cJ6_bitCount_0f7a4 22 = .ok (.iadd, 1) := by decide +kernel
theorem dJ6_bitCount_0f7a4_23 : decode cJ6_bitCount_0f7a4 23 = .ok (.istore_n 0, 1) := by decide +kernel
theorem dJ6_bitCount_0f7a4_24 : decode cJ6_bitCount_0f7a4 24 = .ok (.iload_n 0, 1) := by decide +kernel
theorem dJ6_bitCount_0f7a4_25 : decode cJ6_bitCount_0f7a4 25 = .ok (.iload_n 0, 1) := by decide +kernel
theorem dJ6_bitCount_0f7a4_26 : decode cJ6_bitCount_0f7a4 26 = .ok (.iconst 4, 1) := by decide +kernel
theorem dJ6_bitCount_0f7a4_27 : decode cJ6_bitCount_0f7a4 27 = .ok (.iushr, 1) := by decide +kernel
theorem dJ6_bitCount_0f7a4_28 : decode cJ6_bitCount_0f7a4 28 = .ok (.iadd, 1) := by decide +kernel
theorem dJ6_bitCount_0f7a4_29 : decode cJ6_bitCount_0f7a4 29 = .ok (.ldc_w 267, 3) := by decide +kernel
theorem dJ6_bitCount_0f7a4_32 : decode cJ6_bitCount_0f7a4 32 = .ok (.iand, 1) := by decide +kernel
theorem dJ6_bitCount_0f7a4_33 : decode cJ6_bitCount_0f7a4 33 = .ok (.istore_n 0, 1) := by decide +kernel
theorem dJ6_bitCount_0f7a4_34 : decode cJ6_bitCount_0f7a4 34 = .ok (.iload_n 0, 1) := by decide +kernel
theorem dJ6_bitCount_0f7a4_35 : decode cJ6_bitCount_0f7a4 35 = .ok (.iload_n 0, 1) := by decide +kernel
theorem dJ6_bitCount_0f7a4_36 : decode cJ6_bitCount_0f7a4 36 = .ok (.bipush 8, 2) := by decide +kernel
theorem dJ6_bitCount_0f7a4_38 : decode cJ6_bitCount_0f7a4 38 = .ok (.iushr, 1) := by decide +kernel
theorem dJ6_bitCount_0f7a4_39 : decode cJ6_bitCount_0f7a4 39 = .ok (.iadd, 1) := by decide +kernel
theorem dJ6_bitCount_0f7a4_40 : decode cJ6_bitCount_0f7a4 40 = .ok (.istore_n 0, 1) := by decide +kernel
theorem dJ6_bitCount_0f7a4_41 : decode cJ6_bitCount_0f7a4 41 = .ok (.iload_n 0, 1) := by decide +kernel
theorem dJ6_bitCount_0f7a4_42 : decode cJ6_bitCount_0f7a4 42 = .ok (.iload_n 0, 1) := by decide +kernel
theorem dJ6_bitCount_0f7a4_43 : decode cJ6_bitCount_0f7a4 43 = .ok (.bipush 16, 2) := by decide +kernel
theorem dJ6_bitCount_0f7a4_45 : decode cJ6_bitCount_0f7a4 45 = .ok (.iushr, 1) := by decide +kernel
theorem dJ6_bitCount_0f7a4_46 : decode cJ6_bitCount_0f7a4 46 = .ok (.iadd, 1) := by decide +kernel
theorem dJ6_bitCount_0f7a4_47 : decode cJ6_bitCount_0f7a4 47 = .ok (.istore_n 0, 1) := by decide +kernel
theorem dJ6_bitCount_0f7a4_48 : decode cJ6_bitCount_0f7a4 48 = .ok (.iload_n 0, 1) := by decide +kernel
theorem dJ6_bitCount_0f7a4_49 : decode cJ6_bitCount_0f7a4 49 = .ok (.bipush 63, 2) := by decide +kernel
theorem dJ6_bitCount_0f7a4_51 : decode cJ6_bitCount_0f7a4 51 = .ok (.iand, 1) := by decide +kernel
theorem dJ6_bitCount_0f7a4_52 : decode cJ6_bitCount_0f7a4 52 = .ok (.ireturn, 1) := by decide +kernel
theorem dJ9_abs_0f7a4_0 : decode cJ9_abs_0f7a4 0 = .ok (.iload_n 0, 1) := by decide +kernel
theorem dJ9_abs_0f7a4_1 : decode cJ9_abs_0f7a4 1 = .ok (.ifCond .ge 8, 3) := by decide +kernel
theorem dJ9_abs_0f7a4_4 : decode cJ9_abs_0f7a4 4 = .ok (.iload_n 0, 1) := by decide +kernel
theorem dJ9_abs_0f7a4_5 : decode cJ9_abs_0f7a4 5 = .ok (.ineg, 1) := by decide +kernel
theorem dJ9_abs_0f7a4_6 : decode cJ9_abs_0f7a4 6 = .ok (.goto 4, 3) := by decide +kernel
theorem dJ9_abs_0f7a4_9 : decode cJ9_abs_0f7a4 9 = .ok (.iload_n 0, 1) := by decide +kernel
theorem dJ9_abs_0f7a4_10 : decode cJ9_abs_0f7a4 10 = .ok (.ireturn, 1) := by decide +kernel
theorem dJ9_max_7cf53_0 : decode cJ9_max_7cf53 0 = .ok (.iload_n 0, 1) := by decide +kernel
theorem dJ9_max_7cf53_1 : decode cJ9_max_7cf53 1 = .ok (.iload_n 1, 1) := by decide +kernel
theorem dJ9_max_7cf53_2 : decode cJ9_max_7cf53 2 = .ok (.if_icmp .lt 7, 3) := by decide +kernel
theorem dJ9_max_7cf53_5 : decode cJ9_max_7cf53 5 = .ok (.iload_n 0, 1) := by decide +kernel
theorem dJ9_max_7cf53_6 : decode cJ9_max_7cf53 6 = .ok (.goto 4, 3) := by decide +kernel
theorem dJ9_max_7cf53_9 : decode cJ9_max_7cf53 9 = .ok (.iload_n 1, 1) := by decide +kernel
theorem dJ9_max_7cf53_10 : decode cJ9_max_7cf53 10 = .ok (.ireturn, 1) := by decide +kernel
theorem dJ9_min_7cf53_0 : decode cJ9_min_7cf53 0 = .ok (.iload_n 0, 1) := by decide +kernel
theorem dJ9_min_7cf53_1 : decode cJ9_min_7cf53 1 = .ok (.iload_n 1, 1) := by decide +kernel
theorem dJ9_min_7cf53_2 : decode cJ9_min_7cf53 2 = .ok (.if_icmp .gt 7, 3) := by decide +kernel
theorem dJ9_min_7cf53_5 : decode cJ9_min_7cf53 5 = .ok (.iload_n 0, 1) := by decide +kernel
theorem dJ9_min_7cf53_6 : decode cJ9_min_7cf53 6 = .ok (.goto 4, 3) := by decide +kernel
theorem dJ9_min_7cf53_9 : decode cJ9_min_7cf53 9 = .ok (.iload_n 1, 1) := by decide +kernel
theorem dJ9_min_7cf53_10 : decode cJ9_min_7cf53 10 = .ok (.ireturn, 1) := by decide +kernel
theorem dL_climber_0 : decode cL_climber 0 = .ok (.aload_n 3, 1) := by decide +kernel
theorem dL_climber_1 : decode cL_climber 1 = .ok (.iconst 0, 1) := by decide +kernel
theorem dL_climber_2 : decode cL_climber 2 = .ok (.aload_n 0, 1) := by decide +kernel
theorem dL_climber_3 : decode cL_climber 3 = .ok (.iload_n 1, 1) := by decide +kernel
theorem dL_climber_4 : decode cL_climber 4 = .ok (.iload_n 2, 1) := by decide +kernel
theorem dL_climber_5 : decode cL_climber 5 = .ok (.invokevirtual 7, 3) := by decide +kernel
theorem dL_climber_8 : decode cL_climber 8 = .ok (.i2l, 1) := by decide +kernel
theorem dL_climber_9 : decode cL_climber 9 = .ok (.lastore, 1) := by decide +kernel
theorem dL_climber_10 : decode cL_climber 10 = .ok (.goto 7, 3) := by decide +kernel
theorem dL_climber_13 : decode cL_climber 13 = .ok (.astore 4, 2) := by decide +kernel
theorem dL_climber_15 : decode cL_climber 15 = .ok (.iconst 1, 1) := by decide +kernel
theorem dL_climber_16 : decode cL_climber 16 = .ok (.ireturn, 1) := by decide +kernel
theorem dL_climber_17 : decode cL_climber 17 = .ok (.iconst 0, 1) := by decide +kernel
theorem dL_climber_18 : decode cL_climber 18 = .ok (.ireturn, 1) := by decide +kernel
theorem dL_row_0 : decode cL_row 0 = .ok (.aload_n 2, 1) := by decide +kernel
theorem dL_row_1 : decode cL_row 1 = .ok (.iconst 0, 1) := by decide +kernel
theorem dL_row_2 : decode cL_row 2 = .ok (.aload_n 0, 1) := by decide +kernel
theorem dL_row_3 : decode cL_row 3 = .ok (.iload_n 1, 1) := by decide +kernel
theorem dL_row_4 : decode cL_row 4 = .ok (.invokevirtual 15, 3) := by decide +kernel
theorem dL_row_7 : decode cL_row 7 = .ok (.lastore, 1) := by decide +kernel
theorem dL_row_8 : decode cL_row 8 = .ok (.goto 6, 3) := by decide +kernel
theorem dL_row_11 : decode cL_row 11 = .ok (.astore_n 3, 1) := by decide +kernel
theorem dL_row_12 : decode cL_row 12 = .ok (.iconst 1, 1) := by decide +kernel
theorem dL_row_13 : decode cL_row 13 = .ok (.ireturn, 1) := by decide +kernel
theorem dL_row_14 : decode cL_row 14 = .ok (.iconst 0, 1) := by decide +kernel
theorem dL_row_15 : decode cL_row 15 = .ok (.ireturn, 1) := by decide +kernel
theorem dL_law_0 : decode cL_law 0 = .ok (.new 8, 3) := by decide +kernel
theorem dL_law_3 : decode cL_law 3 = .ok (.dup, 1) := by decide +kernel
theorem dL_law_4 : decode cL_law 4 = .ok (.invokespecial 19, 3) := by decide +kernel
theorem dL_law_7 : decode cL_law 7 = .ok (.astore_n 1, 1) := by decide +kernel
theorem dL_law_8 : decode cL_law 8 = .ok (.new 20, 3) := by decide +kernel
theorem dL_law_11 : decode cL_law 11 = .ok (.dup, 1) := by decide +kernel
theorem dL_law_12 : decode cL_law 12 = .ok (.invokespecial 22, 3) := by decide +kernel
theorem dL_law_15 : decode cL_law 15 = .ok (.astore_n 2, 1) := by decide +kernel
theorem dL_law_16 : decode cL_law 16 = .ok (.iconst 1, 1) := by decide +kernel
theorem dL_law_17 : decode cL_law 17 = .ok (.newarray .long, 2) := by decide +kernel
theorem dL_law_19 : decode cL_law 19 = .ok (.astore_n 3, 1) := by decide +kernel
theorem dL_law_20 : decode cL_law 20 = .ok (.iconst 0, 1) := by decide +kernel
theorem dL_law_21 : decode cL_law 21 = .ok (.istore 4, 2) := by decide +kernel
theorem dL_law_23 : decode cL_law 23 = .ok (.iload 4, 2) := by decide +kernel
theorem dL_law_25 : decode cL_law 25 = .ok (.aload_n 0, 1) := by decide +kernel
theorem dL_law_26 : decode cL_law 26 = .ok (.arraylength, 1) := by decide +kernel
theorem dL_law_27 : decode cL_law 27 = .ok (.iconst 5, 1) := by decide +kernel
theorem dL_law_28 : decode cL_law 28 = .ok (.isub, 1) := by decide +kernel
theorem dL_law_29 : decode cL_law 29 = .ok (.if_icmp .gt 1598, 3) := by decide +kernel
theorem dL_law_32 : decode cL_law 32 = .ok (.aload_n 0, 1) := by decide +kernel
theorem dL_law_33 : decode cL_law 33 = .ok (.iload 4, 2) := by decide +kernel
theorem dL_law_35 : decode cL_law 35 = .ok (.iaload, 1) := by decide +kernel
theorem dL_law_36 : decode cL_law 36 = .ok (.bipush 63, 2) := by decide +kernel
theorem dL_law_38 : decode cL_law 38 = .ok (.iand, 1) := by decide +kernel
theorem dL_law_39 : decode cL_law 39 = .ok (.tableswitch 1582 0 51 #[221, 246, 271, 284, 297, 322, 390, 451, 476, 501, 526, 563, 600, 613, 626, 651, 676, 701, 726, 739, 776, 801, 826, 851, 876, 913, 950, 987, 1012, 1049, 1074, 1087, 1100, 1113, 1138, 1151, 1188, 1201, 1214, 1227, 1264, 1277, 1290, 1303, 1340, 1377, 1402, 1415, 1452, 1477, 1502, 1527], 221) := by decide +kernel
theorem dL_law_260 : decode cL_law 260 = .ok (.aload_n 1, 1) := by decide +kernel
theorem dL_law_261 : decode cL_law 261 = .ok (.aload_n 0, 1) := by decide +kernel
theorem dL_law_262 : decode cL_law 262 = .ok (.iload 4, 2) := by decide +kernel
theorem dL_law_264 : decode cL_law 264 = .ok (.iconst 1, 1) := by decide +kernel
theorem dL_law_265 : decode cL_law 265 = .ok (.iadd, 1) := by decide +kernel
theorem dL_law_266 : decode cL_law 266 = .ok (.iaload, 1) := by decide +kernel
theorem dL_law_267 : decode cL_law 267 = .ok (.invokevirtual 23, 3) := by decide +kernel
theorem dL_law_270 : decode cL_law 270 = .ok (.aload_n 2, 1) := by decide +kernel
theorem dL_law_271 : decode cL_law 271 = .ok (.aload_n 0, 1) := by decide +kernel
theorem dL_law_272 : decode cL_law 272 = .ok (.iload 4, 2) := by decide +kernel
theorem dL_law_274 : decode cL_law 274 = .ok (.iconst 1, 1) := by decide +kernel
theorem dL_law_275 : decode cL_law 275 = .ok (.iadd, 1) := by decide +kernel
theorem dL_law_276 : decode cL_law 276 = .ok (.iaload, 1) := by decide +kernel
theorem dL_law_277 : decode cL_law 277 = .ok (.invokevirtual 27, 3) := by decide +kernel
theorem dL_law_280 : decode cL_law 280 = .ok (.if_icmp .eq 1341, 3) := by decide +kernel
theorem dL_law_283 : decode cL_law 283 = .ok (.iconst 0, 1) := by decide +kernel
theorem dL_law_284 : decode cL_law 284 = .ok (.ireturn, 1) := by decide +kernel
theorem dL_law_285 : decode cL_law 285 = .ok (.aload_n 1, 1) := by decide +kernel
theorem dL_law_286 : decode cL_law 286 = .ok (.aload_n 0, 1) := by decide +kernel
theorem dL_law_287 : decode cL_law 287 = .ok (.iload 4, 2) := by decide +kernel
theorem dL_law_289 : decode cL_law 289 = .ok (.iconst 1, 1) := by decide +kernel
theorem dL_law_290 : decode cL_law 290 = .ok (.iadd, 1) := by decide +kernel
theorem dL_law_291 : decode cL_law 291 = .ok (.iaload, 1) := by decide +kernel
theorem dL_law_292 : decode cL_law 292 = .ok (.invokevirtual 28, 3) := by decide +kernel
theorem dL_law_295 : decode cL_law 295 = .ok (.aload_n 2, 1) := by decide +kernel
theorem dL_law_296 : decode cL_law 296 = .ok (.aload_n 0, 1) := by decide +kernel
theorem dL_law_297 : decode cL_law 297 = .ok (.iload 4, 2) := by decide +kernel
theorem dL_law_299 : decode cL_law 299 = .ok (.iconst 1, 1) := by decide +kernel
theorem dL_law_300 : decode cL_law 300 = .ok (.iadd, 1) := by decide +kernel
theorem dL_law_301 : decode cL_law 301 = .ok (.iaload, 1) := by decide +kernel
theorem dL_law_302 : decode cL_law 302 = .ok (.invokevirtual 32, 3) := by decide +kernel
theorem dL_law_305 : decode cL_law 305 = .ok (.if_icmp .eq 1316, 3) := by decide +kernel
theorem dL_law_308 : decode cL_law 308 = .ok (.iconst 0, 1) := by decide +kernel
theorem dL_law_309 : decode cL_law 309 = .ok (.ireturn, 1) := by decide +kernel
theorem dL_law_310 : decode cL_law 310 = .ok (.aload_n 1, 1) := by decide +kernel
theorem dL_law_311 : decode cL_law 311 = .ok (.invokevirtual 33, 3) := by decide +kernel
theorem dL_law_314 : decode cL_law 314 = .ok (.aload_n 2, 1) := by decide +kernel
theorem dL_law_315 : decode cL_law 315 = .ok (.invokevirtual 37, 3) := by decide +kernel
theorem dL_law_318 : decode cL_law 318 = .ok (.if_icmp .eq 1303, 3) := by decide +kernel
theorem dL_law_321 : decode cL_law 321 = .ok (.iconst 0, 1) := by decide +kernel
theorem dL_law_322 : decode cL_law 322 = .ok (.ireturn, 1) := by decide +kernel
theorem dL_law_323 : decode cL_law 323 = .ok (.aload_n 1, 1) := by decide +kernel
theorem dL_law_324 : decode cL_law 324 = .ok (.invokevirtual 38, 3) := by decide +kernel
theorem dL_law_327 : decode cL_law 327 = .ok (.aload_n 2, 1) := by decide +kernel
theorem dL_law_328 : decode cL_law 328 = .ok (.invokevirtual 41, 3) := by decide +kernel
theorem dL_law_331 : decode cL_law 331 = .ok (.if_icmp .eq 1290, 3) := by decide +kernel
theorem dL_law_334 : decode cL_law 334 = .ok (.iconst 0, 1) := by decide +kernel
theorem dL_law_335 : decode cL_law 335 = .ok (.ireturn, 1) := by decide +kernel
theorem dL_law_336 : decode cL_law 336 = .ok (.aload_n 1, 1) := by decide +kernel
theorem dL_law_337 : decode cL_law 337 = .ok (.aload_n 0, 1) := by decide +kernel
theorem dL_law_338 : decode cL_law 338 = .ok (.iload 4, 2) := by decide +kernel
theorem dL_law_340 : decode cL_law 340 = .ok (.iconst 1, 1) := by decide +kernel
theorem dL_law_341 : decode cL_law 341 = .ok (.iadd, 1) := by decide +kernel
theorem dL_law_342 : decode cL_law 342 = .ok (.iaload, 1) := by decide +kernel
theorem dL_law_343 : decode cL_law 343 = .ok (.invokevirtual 42, 3) := by decide +kernel
theorem dL_law_346 : decode cL_law 346 = .ok (.aload_n 2, 1) := by decide +kernel
theorem dL_law_347 : decode cL_law 347 = .ok (.aload_n 0, 1) := by decide +kernel
theorem dL_law_348 : decode cL_law 348 = .ok (.iload 4, 2) := by decide +kernel
theorem dL_law_350 : decode cL_law 350 = .ok (.iconst 1, 1) := by decide +kernel
theorem dL_law_351 : decode cL_law 351 = .ok (.iadd, 1) := by decide +kernel
theorem dL_law_352 : decode cL_law 352 = .ok (.iaload, 1) := by decide +kernel
theorem dL_law_353 : decode cL_law 353 = .ok (.invokevirtual 45, 3) := by decide +kernel
theorem dL_law_356 : decode cL_law 356 = .ok (.if_icmp .eq 1265, 3) := by decide +kernel
theorem dL_law_359 : decode cL_law 359 = .ok (.iconst 0, 1) := by decide +kernel
theorem dL_law_360 : decode cL_law 360 = .ok (.ireturn, 1) := by decide +kernel
theorem dL_law_361 : decode cL_law 361 = .ok (.aload_n 1, 1) := by decide +kernel
theorem dL_law_362 : decode cL_law 362 = .ok (.aload_n 0, 1) := by decide +kernel
theorem dL_law_363 : decode cL_law 363 = .ok (.iload 4, 2) := by decide +kernel
theorem dL_law_365 : decode cL_law 365 = .ok (.iconst 1, 1) := by decide +kernel
theorem dL_law_366 : decode cL_law 366 = .ok (.iadd, 1) := by decide +kernel
theorem dL_law_367 : decode cL_law 367 = .ok (.iaload, 1) := by decide +kernel
theorem dL_law_368 : decode cL_law 368 = .ok (.aload_n 0, 1) := by decide +kernel
theorem dL_law_369 : decode cL_law 369 = .ok (.iload 4, 2) := by decide +kernel
theorem dL_law_371 : decode cL_law 371 = .ok (.iconst 2, 1) := by decide +kernel
theorem dL_law_372 : decode cL_law 372 = .ok (.iadd, 1) := by decide +kernel
theorem dL_law_373 : decode cL_law 373 = .ok (.iaload, 1) := by decide +kernel
theorem dL_law_374 : decode cL_law 374 = .ok (.aload_n 3, 1) := by decide +kernel
theorem dL_law_375 : decode cL_law 375 = .ok (.invokestatic 46, 3) := by decide +kernel
theorem dL_law_378 : decode cL_law 378 = .ok (.istore 5, 2) := by decide +kernel
theorem dL_law_380 : decode cL_law 380 = .ok (.aload_n 2, 1) := by decide +kernel
theorem dL_law_381 : decode cL_law 381 = .ok (.aload_n 0, 1) := by decide +kernel
theorem dL_law_382 : decode cL_law 382 = .ok (.iload 4, 2) := by decide +kernel
theorem dL_law_384 : decode cL_law 384 = .ok (.iconst 1, 1) := by decide +kernel
theorem dL_law_385 : decode cL_law 385 = .ok (.iadd, 1) := by decide +kernel
theorem dL_law_386 : decode cL_law 386 = .ok (.iaload, 1) := by decide +kernel
theorem dL_law_387 : decode cL_law 387 = .ok (.aload_n 0, 1) := by decide +kernel
theorem dL_law_388 : decode cL_law 388 = .ok (.iload 4, 2) := by decide +kernel
theorem dL_law_390 : decode cL_law 390 = .ok (.iconst 2, 1) := by decide +kernel
theorem dL_law_391 : decode cL_law 391 = .ok (.iadd, 1) := by decide +kernel
theorem dL_law_392 : decode cL_law 392 = .ok (.iaload, 1) := by decide +kernel
theorem dL_law_393 : decode cL_law 393 = .ok (.invokevirtual 51, 3) := by decide +kernel
theorem dL_law_396 : decode cL_law 396 = .ok (.istore 6, 2) := by decide +kernel
theorem dL_law_398 : decode cL_law 398 = .ok (.aload_n 2, 1) := by decide +kernel
theorem dL_law_399 : decode cL_law 399 = .ok (.invokevirtual 52, 3) := by decide +kernel
theorem dL_law_402 : decode cL_law 402 = .ok (.iload 5, 2) := by decide +kernel
theorem dL_law_404 : decode cL_law 404 = .ok (.if_icmp .eq 5, 3) := by decide +kernel
theorem dL_law_407 : decode cL_law 407 = .ok (.iconst 0, 1) := by decide +kernel
theorem dL_law_408 : decode cL_law 408 = .ok (.ireturn, 1) := by decide +kernel
theorem dL_law_409 : decode cL_law 409 = .ok (.iload 5, 2) := by decide +kernel
theorem dL_law_411 : decode cL_law 411 = .ok (.ifCond .ne 15, 3) := by decide +kernel
theorem dL_law_414 : decode cL_law 414 = .ok (.aload_n 3, 1) := by decide +kernel
theorem dL_law_415 : decode cL_law 415 = .ok (.iconst 0, 1) := by decide +kernel
theorem dL_law_416 : decode cL_law 416 = .ok (.laload, 1) := by decide +kernel
theorem dL_law_417 : decode cL_law 417 = .ok (.iload 6, 2) := by decide +kernel
theorem dL_law_419 : decode cL_law 419 = .ok (.i2l, 1) := by decide +kernel
theorem dL_law_420 : decode cL_law 420 = .ok (.lcmp, 1) := by decide +kernel
theorem dL_law_421 : decode cL_law 421 = .ok (.ifCond .eq 5, 3) := by decide +kernel
theorem dL_law_424 : decode cL_law 424 = .ok (.iconst 0, 1) := by decide +kernel
theorem dL_law_425 : decode cL_law 425 = .ok (.ireturn, 1) := by decide +kernel
theorem dL_law_426 : decode cL_law 426 = .ok (.goto 1195, 3) := by decide +kernel
theorem dL_law_429 : decode cL_law 429 = .ok (.aload_n 1, 1) := by decide +kernel
theorem dL_law_430 : decode cL_law 430 = .ok (.aload_n 0, 1) := by decide +kernel
theorem dL_law_431 : decode cL_law 431 = .ok (.iload 4, 2) := by decide +kernel
theorem dL_law_433 : decode cL_law 433 = .ok (.iconst 1, 1) := by decide +kernel
theorem dL_law_434 : decode cL_law 434 = .ok (.iadd, 1) := by decide +kernel
theorem dL_law_435 : decode cL_law 435 = .ok (.iaload, 1) := by decide +kernel
theorem dL_law_436 : decode cL_law 436 = .ok (.aload_n 0, 1) := by decide +kernel
theorem dL_law_437 : decode cL_law 437 = .ok (.iload 4, 2) := by decide +kernel
theorem dL_law_439 : decode cL_law 439 = .ok (.iconst 2, 1) := by decide +kernel
theorem dL_law_440 : decode cL_law 440 = .ok (.iadd, 1) := by decide +kernel
theorem dL_law_441 : decode cL_law 441 = .ok (.iaload, 1) := by decide +kernel
theorem dL_law_442 : decode cL_law 442 = .ok (.aload_n 0, 1) := by decide +kernel
theorem dL_law_443 : decode cL_law 443 = .ok (.iload 4, 2) := by decide +kernel
theorem dL_law_445 : decode cL_law 445 = .ok (.iconst 3, 1) := by decide +kernel
theorem dL_law_446 : decode cL_law 446 = .ok (.iadd, 1) := by decide +kernel
theorem dL_law_447 : decode cL_law 447 = .ok (.iaload, 1) := by decide +kernel
theorem dL_law_448 : decode cL_law 448 = .ok (.aload_n 0, 1) := by decide +kernel
theorem dL_law_449 : decode cL_law 449 = .ok (.iload 4, 2) := by decide +kernel
theorem dL_law_451 : decode cL_law 451 = .ok (.iconst 4, 1) := by decide +kernel
theorem dL_law_452 : decode cL_law 452 = .ok (.iadd, 1) := by decide +kernel
theorem dL_law_453 : decode cL_law 453 = .ok (.iaload, 1) := by decide +kernel
theorem dL_law_454 : decode cL_law 454 = .ok (.invokevirtual 55, 3) := by decide +kernel
theorem dL_law_457 : decode cL_law 457 = .ok (.aload_n 2, 1) := by decide +kernel
theorem dL_law_458 : decode cL_law 458 = .ok (.aload_n 0, 1) := by decide +kernel
theorem dL_law_459 : decode cL_law 459 = .ok (.iload 4, 2) := by decide +kernel
theorem dL_law_461 : decode cL_law 461 = .ok (.iconst 1, 1) := by decide +kernel
theorem dL_law_462 : decode cL_law 462 = .ok (.iadd, 1) := by decide +kernel
theorem dL_law_463 : decode cL_law 463 = .ok (.iaload, 1) := by decide +kernel
theorem dL_law_464 : decode cL_law 464 = .ok (.aload_n 0, 1) := by decide +kernel
theorem dL_law_465 : decode cL_law 465 = .ok (.iload 4, 2) := by decide +kernel
theorem dL_law_467 : decode cL_law 467 = .ok (.iconst 2, 1) := by decide +kernel
theorem dL_law_468 : decode cL_law 468 = .ok (.iadd, 1) := by decide +kernel
theorem dL_law_469 : decode cL_law 469 = .ok (.iaload, 1) := by decide +kernel
theorem dL_law_470 : decode cL_law 470 = .ok (.aload_n 0, 1) := by decide +kernel
theorem dL_law_471 : decode cL_law 471 = .ok (.iload 4, 2) := by decide +kernel
theorem dL_law_473 : decode cL_law 473 = .ok (.iconst 3, 1) := by decide +kernel
theorem dL_law_474 : decode cL_law 474 = .ok (.iadd, 1) := by decide +kernel
theorem dL_law_475 : decode cL_law 475 = .ok (.iaload, 1) := by decide +kernel
theorem dL_law_476 : decode cL_law 476 = .ok (.aload_n 0, 1) := by decide +kernel
theorem dL_law_477 : decode cL_law 477 = .ok (.iload 4, 2) := by decide +kernel
theorem dL_law_479 : decode cL_law 479 = .ok (.iconst 4, 1) := by decide +kernel
theorem dL_law_480 : decode cL_law 480 = .ok (.iadd, 1) := by decide +kernel
theorem dL_law_481 : decode cL_law 481 = .ok (.iaload, 1) := by decide +kernel
theorem dL_law_482 : decode cL_law 482 = .ok (.invokevirtual 59, 3) := by decide +kernel
theorem dL_law_485 : decode cL_law 485 = .ok (.if_icmp .eq 1136, 3) := by decide +kernel
theorem dL_law_488 : decode cL_law 488 = .ok (.iconst 0, 1) := by decide +kernel
theorem dL_law_489 : decode cL_law 489 = .ok (.ireturn, 1) := by decide +kernel
theorem dL_law_490 : decode cL_law 490 = .ok (.aload_n 1, 1) := by decide +kernel
theorem dL_law_491 : decode cL_law 491 = .ok (.aload_n 0, 1) := by decide +kernel
theorem dL_law_492 : decode cL_law 492 = .ok (.iload 4, 2) := by decide +kernel
theorem dL_law_494 : decode cL_law 494 = .ok (.iconst 1, 1) := by decide +kernel
theorem dL_law_495 : decode cL_law 495 = .ok (.iadd, 1) := by decide +kernel
theorem dL_law_496 : decode cL_law 496 = .ok (.iaload, 1) := by decide +kernel
theorem dL_law_497 : decode cL_law 497 = .ok (.invokevirtual 60, 3) := by decide +kernel
theorem dL_law_500 : decode cL_law 500 = .ok (.aload_n 2, 1) := by decide +kernel
theorem dL_law_501 : decode cL_law 501 = .ok (.aload_n 0, 1) := by decide +kernel
theorem dL_law_502 : decode cL_law 502 = .ok (.iload 4, 2) := by decide +kernel
theorem dL_law_504 : decode cL_law 504 = .ok (.iconst 1, 1) := by decide +kernel
theorem dL_law_505 : decode cL_law 505 = .ok (.iadd, 1) := by decide +kernel
theorem dL_law_506 : decode cL_law 506 = .ok (.iaload, 1) := by decide +kernel
theorem dL_law_507 : decode cL_law 507 = .ok (.invokevirtual 63, 3) := by decide +kernel
theorem dL_law_510 : decode cL_law 510 = .ok (.if_icmp .eq 1111, 3) := by decide +kernel
theorem dL_law_513 : decode cL_law 513 = .ok (.iconst 0, 1) := by decide +kernel
theorem dL_law_514 : decode cL_law 514 = .ok (.ireturn, 1) := by decide +kernel
theorem dL_law_515 : decode cL_law 515 = .ok (.aload_n 1, 1) := by decide +kernel
theorem dL_law_516 : decode cL_law 516 = .ok (.aload_n 0, 1) := by decide +kernel
theorem dL_law_517 : decode cL_law 517 = .ok (.iload 4, 2) := by decide +kernel
theorem dL_law_519 : decode cL_law 519 = .ok (.iconst 1, 1) := by decide +kernel
theorem dL_law_520 : decode cL_law 520 = .ok (.iadd, 1) := by decide +kernel
theorem dL_law_521 : decode cL_law 521 = .ok (.iaload, 1) := by decide +kernel
theorem dL_law_522 : decode cL_law 522 = .ok (.invokevirtual 64, 3) := by decide +kernel
theorem dL_law_525 : decode cL_law 525 = .ok (.aload_n 2, 1) := by decide +kernel
theorem dL_law_526 : decode cL_law 526 = .ok (.aload_n 0, 1) := by decide +kernel
theorem dL_law_527 : decode cL_law 527 = .ok (.iload 4, 2) := by decide +kernel
theorem dL_law_529 : decode cL_law 529 = .ok (.iconst 1, 1) := by decide +kernel
theorem dL_law_530 : decode cL_law 530 = .ok (.iadd, 1) := by decide +kernel
theorem dL_law_531 : decode cL_law 531 = .ok (.iaload, 1) := by decide +kernel
theorem dL_law_532 : decode cL_law 532 = .ok (.invokevirtual 67, 3) := by decide +kernel
theorem dL_law_535 : decode cL_law 535 = .ok (.if_icmp .eq 1086, 3) := by decide +kernel
theorem dL_law_538 : decode cL_law 538 = .ok (.iconst 0, 1) := by decide +kernel
theorem dL_law_539 : decode cL_law 539 = .ok (.ireturn, 1) := by decide +kernel
theorem dL_law_540 : decode cL_law 540 = .ok (.aload_n 1, 1) := by decide +kernel
theorem dL_law_541 : decode cL_law 541 = .ok (.aload_n 0, 1) := by decide +kernel
theorem dL_law_542 : decode cL_law 542 = .ok (.iload 4, 2) := by decide +kernel
theorem dL_law_544 : decode cL_law 544 = .ok (.iconst 1, 1) := by decide +kernel
theorem dL_law_545 : decode cL_law 545 = .ok (.iadd, 1) := by decide +kernel
theorem dL_law_546 : decode cL_law 546 = .ok (.iaload, 1) := by decide +kernel
theorem dL_law_547 : decode cL_law 547 = .ok (.invokevirtual 68, 3) := by decide +kernel
theorem dL_law_550 : decode cL_law 550 = .ok (.aload_n 2, 1) := by decide +kernel
theorem dL_law_551 : decode cL_law 551 = .ok (.aload_n 0, 1) := by decide +kernel
theorem dL_law_552 : decode cL_law 552 = .ok (.iload 4, 2) := by decide +kernel
theorem dL_law_554 : decode cL_law 554 = .ok (.iconst 1, 1) := by decide +kernel
theorem dL_law_555 : decode cL_law 555 = .ok (.iadd, 1) := by decide +kernel
theorem dL_law_556 : decode cL_law 556 = .ok (.iaload, 1) := by decide +kernel
theorem dL_law_557 : decode cL_law 557 = .ok (.invokevirtual 71, 3) := by decide +kernel
theorem dL_law_560 : decode cL_law 560 = .ok (.if_icmp .eq 1061, 3) := by decide +kernel
theorem dL_law_563 : decode cL_law 563 = .ok (.iconst 0, 1) := by decide +kernel
theorem dL_law_564 : decode cL_law 564 = .ok (.ireturn, 1) := by decide +kernel
theorem dL_law_565 : decode cL_law 565 = .ok (.aload_n 1, 1) := by decide +kernel
theorem dL_law_566 : decode cL_law 566 = .ok (.aload_n 0, 1) := by decide +kernel
theorem dL_law_567 : decode cL_law 567 = .ok (.iload 4, 2) := by decide +kernel
theorem dL_law_569 : decode cL_law 569 = .ok (.iconst 1, 1) := by decide +kernel
theorem dL_law_570 : decode cL_law 570 = .ok (.iadd, 1) := by decide +kernel
theorem dL_law_571 : decode cL_law 571 = .ok (.iaload, 1) := by decide +kernel
theorem dL_law_572 : decode cL_law 572 = .ok (.aload_n 0, 1) := by decide +kernel
theorem dL_law_573 : decode cL_law 573 = .ok (.iload 4, 2) := by decide +kernel
theorem dL_law_575 : decode cL_law 575 = .ok (.iconst 2, 1) := by decide +kernel
theorem dL_law_576 : decode cL_law 576 = .ok (.iadd, 1) := by decide +kernel
theorem dL_law_577 : decode cL_law 577 = .ok (.iaload, 1) := by decide +kernel
theorem dL_law_578 : decode cL_law 578 = .ok (.invokevirtual 72, 3) := by decide +kernel
theorem dL_law_581 : decode cL_law 581 = .ok (.aload_n 2, 1) := by decide +kernel
theorem dL_law_582 : decode cL_law 582 = .ok (.aload_n 0, 1) := by decide +kernel
theorem dL_law_583 : decode cL_law 583 = .ok (.iload 4, 2) := by decide +kernel
theorem dL_law_585 : decode cL_law 585 = .ok (.iconst 1, 1) := by decide +kernel
theorem dL_law_586 : decode cL_law 586 = .ok (.iadd, 1) := by decide +kernel
theorem dL_law_587 : decode cL_law 587 = .ok (.iaload, 1) := by decide +kernel
theorem dL_law_588 : decode cL_law 588 = .ok (.aload_n 0, 1) := by decide +kernel
theorem dL_law_589 : decode cL_law 589 = .ok (.iload 4, 2) := by decide +kernel
theorem dL_law_591 : decode cL_law 591 = .ok (.iconst 2, 1) := by decide +kernel
theorem dL_law_592 : decode cL_law 592 = .ok (.iadd, 1) := by decide +kernel
theorem dL_law_593 : decode cL_law 593 = .ok (.iaload, 1) := by decide +kernel
theorem dL_law_594 : decode cL_law 594 = .ok (.invokevirtual 75, 3) := by decide +kernel
theorem dL_law_597 : decode cL_law 597 = .ok (.if_icmp .eq 1024, 3) := by decide +kernel
theorem dL_law_600 : decode cL_law 600 = .ok (.iconst 0, 1) := by decide +kernel
theorem dL_law_601 : decode cL_law 601 = .ok (.ireturn, 1) := by decide +kernel
theorem dL_law_602 : decode cL_law 602 = .ok (.aload_n 1, 1) := by decide +kernel
theorem dL_law_603 : decode cL_law 603 = .ok (.aload_n 0, 1) := by decide +kernel
theorem dL_law_604 : decode cL_law 604 = .ok (.iload 4, 2) := by decide +kernel
theorem dL_law_606 : decode cL_law 606 = .ok (.iconst 1, 1) := by decide +kernel
theorem dL_law_607 : decode cL_law 607 = .ok (.iadd, 1) := by decide +kernel
theorem dL_law_608 : decode cL_law 608 = .ok (.iaload, 1) := by decide +kernel
theorem dL_law_609 : decode cL_law 609 = .ok (.aload_n 0, 1) := by decide +kernel
theorem dL_law_610 : decode cL_law 610 = .ok (.iload 4, 2) := by decide +kernel
theorem dL_law_612 : decode cL_law 612 = .ok (.iconst 2, 1) := by decide +kernel
theorem dL_law_613 : decode cL_law 613 = .ok (.iadd, 1) := by decide +kernel
theorem dL_law_614 : decode cL_law 614 = .ok (.iaload, 1) := by decide +kernel
theorem dL_law_615 : decode cL_law 615 = .ok (.invokevirtual 76, 3) := by decide +kernel
theorem dL_law_618 : decode cL_law 618 = .ok (.aload_n 2, 1) := by decide +kernel
theorem dL_law_619 : decode cL_law 619 = .ok (.aload_n 0, 1) := by decide +kernel
theorem dL_law_620 : decode cL_law 620 = .ok (.iload 4, 2) := by decide +kernel
theorem dL_law_622 : decode cL_law 622 = .ok (.iconst 1, 1) := by decide +kernel
theorem dL_law_623 : decode cL_law 623 = .ok (.iadd, 1) := by decide +kernel
theorem dL_law_624 : decode cL_law 624 = .ok (.iaload, 1) := by decide +kernel
theorem dL_law_625 : decode cL_law 625 = .ok (.aload_n 0, 1) := by decide +kernel
theorem dL_law_626 : decode cL_law 626 = .ok (.iload 4, 2) := by decide +kernel
theorem dL_law_628 : decode cL_law 628 = .ok (.iconst 2, 1) := by decide +kernel
theorem dL_law_629 : decode cL_law 629 = .ok (.iadd, 1) := by decide +kernel
theorem dL_law_630 : decode cL_law 630 = .ok (.iaload, 1) := by decide +kernel
theorem dL_law_631 : decode cL_law 631 = .ok (.invokevirtual 79, 3) := by decide +kernel
theorem dL_law_634 : decode cL_law 634 = .ok (.if_icmp .eq 987, 3) := by decide +kernel
theorem dL_law_637 : decode cL_law 637 = .ok (.iconst 0, 1) := by decide +kernel
theorem dL_law_638 : decode cL_law 638 = .ok (.ireturn, 1) := by decide +kernel
theorem dL_law_639 : decode cL_law 639 = .ok (.aload_n 1, 1) := by decide +kernel
theorem dL_law_640 : decode cL_law 640 = .ok (.invokevirtual 80, 3) := by decide +kernel
theorem dL_law_643 : decode cL_law 643 = .ok (.aload_n 2, 1) := by decide +kernel
theorem dL_law_644 : decode cL_law 644 = .ok (.invokevirtual 83, 3) := by decide +kernel
theorem dL_law_647 : decode cL_law 647 = .ok (.if_icmp .eq 974, 3) := by decide +kernel
theorem dL_law_650 : decode cL_law 650 = .ok (.iconst 0, 1) := by decide +kernel
theorem dL_law_651 : decode cL_law 651 = .ok (.ireturn, 1) := by decide +kernel
theorem dL_law_652 : decode cL_law 652 = .ok (.aload_n 1, 1) := by decide +kernel
theorem dL_law_653 : decode cL_law 653 = .ok (.invokevirtual 84, 3) := by decide +kernel
theorem dL_law_656 : decode cL_law 656 = .ok (.aload_n 2, 1) := by decide +kernel
theorem dL_law_657 : decode cL_law 657 = .ok (.invokevirtual 87, 3) := by decide +kernel
theorem dL_law_660 : decode cL_law 660 = .ok (.if_icmp .eq 961, 3) := by decide +kernel
theorem dL_law_663 : decode cL_law 663 = .ok (.iconst 0, 1) := by decide +kernel
theorem dL_law_664 : decode cL_law 664 = .ok (.ireturn, 1) := by decide +kernel
theorem dL_law_665 : decode cL_law 665 = .ok (.aload_n 1, 1) := by decide +kernel
theorem dL_law_666 : decode cL_law 666 = .ok (.aload_n 0, 1) := by decide +kernel
theorem dL_law_667 : decode cL_law 667 = .ok (.iload 4, 2) := by decide +kernel
theorem dL_law_669 : decode cL_law 669 = .ok (.iconst 1, 1) := by decide +kernel
theorem dL_law_670 : decode cL_law 670 = .ok (.iadd, 1) := by decide +kernel
theorem dL_law_671 : decode cL_law 671 = .ok (.iaload, 1) := by decide +kernel
theorem dL_law_672 : decode cL_law 672 = .ok (.invokevirtual 88, 3) := by decide +kernel
theorem dL_law_675 : decode cL_law 675 = .ok (.aload_n 2, 1) := by decide +kernel
theorem dL_law_676 : decode cL_law 676 = .ok (.aload_n 0, 1) := by decide +kernel
theorem dL_law_677 : decode cL_law 677 = .ok (.iload 4, 2) := by decide +kernel
theorem dL_law_679 : decode cL_law 679 = .ok (.iconst 1, 1) := by decide +kernel
theorem dL_law_680 : decode cL_law 680 = .ok (.iadd, 1) := by decide +kernel
theorem dL_law_681 : decode cL_law 681 = .ok (.iaload, 1) := by decide +kernel
theorem dL_law_682 : decode cL_law 682 = .ok (.invokevirtual 91, 3) := by decide +kernel
theorem dL_law_685 : decode cL_law 685 = .ok (.if_icmp .eq 936, 3) := by decide +kernel
theorem dL_law_688 : decode cL_law 688 = .ok (.iconst 0, 1) := by decide +kernel
theorem dL_law_689 : decode cL_law 689 = .ok (.ireturn, 1) := by decide +kernel
theorem dL_law_690 : decode cL_law 690 = .ok (.aload_n 1, 1) := by decide +kernel
theorem dL_law_691 : decode cL_law 691 = .ok (.aload_n 0, 1) := by decide +kernel
theorem dL_law_692 : decode cL_law 692 = .ok (.iload 4, 2) := by decide +kernel
theorem dL_law_694 : decode cL_law 694 = .ok (.iconst 1, 1) := by decide +kernel
theorem dL_law_695 : decode cL_law 695 = .ok (.iadd, 1) := by decide +kernel
theorem dL_law_696 : decode cL_law 696 = .ok (.iaload, 1) := by decide +kernel
theorem dL_law_697 : decode cL_law 697 = .ok (.invokevirtual 92, 3) := by decide +kernel
theorem dL_law_700 : decode cL_law 700 = .ok (.aload_n 2, 1) := by decide +kernel
theorem dL_law_701 : decode cL_law 701 = .ok (.aload_n 0, 1) := by decide +kernel
theorem dL_law_702 : decode cL_law 702 = .ok (.iload 4, 2) := by decide +kernel
theorem dL_law_704 : decode cL_law 704 = .ok (.iconst 1, 1) := by decide +kernel
theorem dL_law_705 : decode cL_law 705 = .ok (.iadd, 1) := by decide +kernel
theorem dL_law_706 : decode cL_law 706 = .ok (.iaload, 1) := by decide +kernel
theorem dL_law_707 : decode cL_law 707 = .ok (.invokevirtual 95, 3) := by decide +kernel
theorem dL_law_710 : decode cL_law 710 = .ok (.if_icmp .eq 911, 3) := by decide +kernel
theorem dL_law_713 : decode cL_law 713 = .ok (.iconst 0, 1) := by decide +kernel
theorem dL_law_714 : decode cL_law 714 = .ok (.ireturn, 1) := by decide +kernel
theorem dL_law_715 : decode cL_law 715 = .ok (.aload_n 1, 1) := by decide +kernel
theorem dL_law_716 : decode cL_law 716 = .ok (.aload_n 0, 1) := by decide +kernel
theorem dL_law_717 : decode cL_law 717 = .ok (.iload 4, 2) := by decide +kernel
theorem dL_law_719 : decode cL_law 719 = .ok (.iconst 1, 1) := by decide +kernel
theorem dL_law_720 : decode cL_law 720 = .ok (.iadd, 1) := by decide +kernel
theorem dL_law_721 : decode cL_law 721 = .ok (.iaload, 1) := by decide +kernel
theorem dL_law_722 : decode cL_law 722 = .ok (.invokevirtual 96, 3) := by decide +kernel
theorem dL_law_725 : decode cL_law 725 = .ok (.aload_n 2, 1) := by decide +kernel
theorem dL_law_726 : decode cL_law 726 = .ok (.aload_n 0, 1) := by decide +kernel
theorem dL_law_727 : decode cL_law 727 = .ok (.iload 4, 2) := by decide +kernel
theorem dL_law_729 : decode cL_law 729 = .ok (.iconst 1, 1) := by decide +kernel
theorem dL_law_730 : decode cL_law 730 = .ok (.iadd, 1) := by decide +kernel
theorem dL_law_731 : decode cL_law 731 = .ok (.iaload, 1) := by decide +kernel
theorem dL_law_732 : decode cL_law 732 = .ok (.invokevirtual 99, 3) := by decide +kernel
theorem dL_law_735 : decode cL_law 735 = .ok (.if_icmp .eq 886, 3) := by decide +kernel
theorem dL_law_738 : decode cL_law 738 = .ok (.iconst 0, 1) := by decide +kernel
theorem dL_law_739 : decode cL_law 739 = .ok (.ireturn, 1) := by decide +kernel
theorem dL_law_740 : decode cL_law 740 = .ok (.aload_n 1, 1) := by decide +kernel
theorem dL_law_741 : decode cL_law 741 = .ok (.aload_n 0, 1) := by decide +kernel
theorem dL_law_742 : decode cL_law 742 = .ok (.iload 4, 2) := by decide +kernel
theorem dL_law_744 : decode cL_law 744 = .ok (.iconst 1, 1) := by decide +kernel
theorem dL_law_745 : decode cL_law 745 = .ok (.iadd, 1) := by decide +kernel
theorem dL_law_746 : decode cL_law 746 = .ok (.iaload, 1) := by decide +kernel
theorem dL_law_747 : decode cL_law 747 = .ok (.invokevirtual 100, 3) := by decide +kernel
theorem dL_law_750 : decode cL_law 750 = .ok (.aload_n 2, 1) := by decide +kernel
theorem dL_law_751 : decode cL_law 751 = .ok (.aload_n 0, 1) := by decide +kernel
theorem dL_law_752 : decode cL_law 752 = .ok (.iload 4, 2) := by decide +kernel
theorem dL_law_754 : decode cL_law 754 = .ok (.iconst 1, 1) := by decide +kernel
theorem dL_law_755 : decode cL_law 755 = .ok (.iadd, 1) := by decide +kernel
theorem dL_law_756 : decode cL_law 756 = .ok (.iaload, 1) := by decide +kernel
theorem dL_law_757 : decode cL_law 757 = .ok (.invokevirtual 103, 3) := by decide +kernel
theorem dL_law_760 : decode cL_law 760 = .ok (.if_icmp .eq 861, 3) := by decide +kernel
theorem dL_law_763 : decode cL_law 763 = .ok (.iconst 0, 1) := by decide +kernel
theorem dL_law_764 : decode cL_law 764 = .ok (.ireturn, 1) := by decide +kernel
theorem dL_law_765 : decode cL_law 765 = .ok (.aload_n 1, 1) := by decide +kernel
theorem dL_law_766 : decode cL_law 766 = .ok (.invokevirtual 104, 3) := by decide +kernel
theorem dL_law_769 : decode cL_law 769 = .ok (.aload_n 2, 1) := by decide +kernel
theorem dL_law_770 : decode cL_law 770 = .ok (.invokevirtual 107, 3) := by decide +kernel
theorem dL_law_773 : decode cL_law 773 = .ok (.if_icmp .eq 848, 3) := by decide +kernel
theorem dL_law_776 : decode cL_law 776 = .ok (.iconst 0, 1) := by decide +kernel
theorem dL_law_777 : decode cL_law 777 = .ok (.ireturn, 1) := by decide +kernel
theorem dL_law_778 : decode cL_law 778 = .ok (.aload_n 1, 1) := by decide +kernel
theorem dL_law_779 : decode cL_law 779 = .ok (.aload_n 0, 1) := by decide +kernel
theorem dL_law_780 : decode cL_law 780 = .ok (.iload 4, 2) := by decide +kernel
theorem dL_law_782 : decode cL_law 782 = .ok (.iconst 1, 1) := by decide +kernel
theorem dL_law_783 : decode cL_law 783 = .ok (.iadd, 1) := by decide +kernel
theorem dL_law_784 : decode cL_law 784 = .ok (.iaload, 1) := by decide +kernel
theorem dL_law_785 : decode cL_law 785 = .ok (.aload_n 0, 1) := by decide +kernel
theorem dL_law_786 : decode cL_law 786 = .ok (.iload 4, 2) := by decide +kernel
theorem dL_law_788 : decode cL_law 788 = .ok (.iconst 2, 1) := by decide +kernel
theorem dL_law_789 : decode cL_law 789 = .ok (.iadd, 1) := by decide +kernel
theorem dL_law_790 : decode cL_law 790 = .ok (.iaload, 1) := by decide +kernel
theorem dL_law_791 : decode cL_law 791 = .ok (.invokevirtual 108, 3) := by decide +kernel
theorem dL_law_794 : decode cL_law 794 = .ok (.aload_n 2, 1) := by decide +kernel
theorem dL_law_795 : decode cL_law 795 = .ok (.aload_n 0, 1) := by decide +kernel
theorem dL_law_796 : decode cL_law 796 = .ok (.iload 4, 2) := by decide +kernel
theorem dL_law_798 : decode cL_law 798 = .ok (.iconst 1, 1) := by decide +kernel
theorem dL_law_799 : decode cL_law 799 = .ok (.iadd, 1) := by decide +kernel
theorem dL_law_800 : decode cL_law 800 = .ok (.iaload, 1) := by decide +kernel
theorem dL_law_801 : decode cL_law 801 = .ok (.aload_n 0, 1) := by decide +kernel
theorem dL_law_802 : decode cL_law 802 = .ok (.iload 4, 2) := by decide +kernel
theorem dL_law_804 : decode cL_law 804 = .ok (.iconst 2, 1) := by decide +kernel
theorem dL_law_805 : decode cL_law 805 = .ok (.iadd, 1) := by decide +kernel
theorem dL_law_806 : decode cL_law 806 = .ok (.iaload, 1) := by decide +kernel
theorem dL_law_807 : decode cL_law 807 = .ok (.invokevirtual 111, 3) := by decide +kernel
theorem dL_law_810 : decode cL_law 810 = .ok (.if_icmp .eq 811, 3) := by decide +kernel
theorem dL_law_813 : decode cL_law 813 = .ok (.iconst 0, 1) := by decide +kernel
theorem dL_law_814 : decode cL_law 814 = .ok (.ireturn, 1) := by decide +kernel
theorem dL_law_815 : decode cL_law 815 = .ok (.aload_n 1, 1) := by decide +kernel
theorem dL_law_816 : decode cL_law 816 = .ok (.aload_n 0, 1) := by decide +kernel
theorem dL_law_817 : decode cL_law 817 = .ok (.iload 4, 2) := by decide +kernel
theorem dL_law_819 : decode cL_law 819 = .ok (.iconst 1, 1) := by decide +kernel
theorem dL_law_820 : decode cL_law 820 = .ok (.iadd, 1) := by decide +kernel
theorem dL_law_821 : decode cL_law 821 = .ok (.iaload, 1) := by decide +kernel
theorem dL_law_822 : decode cL_law 822 = .ok (.invokevirtual 112, 3) := by decide +kernel
theorem dL_law_825 : decode cL_law 825 = .ok (.aload_n 2, 1) := by decide +kernel
theorem dL_law_826 : decode cL_law 826 = .ok (.aload_n 0, 1) := by decide +kernel
theorem dL_law_827 : decode cL_law 827 = .ok (.iload 4, 2) := by decide +kernel
theorem dL_law_829 : decode cL_law 829 = .ok (.iconst 1, 1) := by decide +kernel
theorem dL_law_830 : decode cL_law 830 = .ok (.iadd, 1) := by decide +kernel
theorem dL_law_831 : decode cL_law 831 = .ok (.iaload, 1) := by decide +kernel
theorem dL_law_832 : decode cL_law 832 = .ok (.invokevirtual 115, 3) := by decide +kernel
theorem dL_law_835 : decode cL_law 835 = .ok (.if_icmp .eq 786, 3) := by decide +kernel
theorem dL_law_838 : decode cL_law 838 = .ok (.iconst 0, 1) := by decide +kernel
theorem dL_law_839 : decode cL_law 839 = .ok (.ireturn, 1) := by decide +kernel
theorem dL_law_840 : decode cL_law 840 = .ok (.aload_n 1, 1) := by decide +kernel
theorem dL_law_841 : decode cL_law 841 = .ok (.aload_n 0, 1) := by decide +kernel
theorem dL_law_842 : decode cL_law 842 = .ok (.iload 4, 2) := by decide +kernel
theorem dL_law_844 : decode cL_law 844 = .ok (.iconst 1, 1) := by decide +kernel
theorem dL_law_845 : decode cL_law 845 = .ok (.iadd, 1) := by decide +kernel
theorem dL_law_846 : decode cL_law 846 = .ok (.iaload, 1) := by decide +kernel
theorem dL_law_847 : decode cL_law 847 = .ok (.invokevirtual 116, 3) := by decide +kernel
theorem dL_law_850 : decode cL_law 850 = .ok (.aload_n 2, 1) := by decide +kernel
theorem dL_law_851 : decode cL_law 851 = .ok (.aload_n 0, 1) := by decide +kernel
theorem dL_law_852 : decode cL_law 852 = .ok (.iload 4, 2) := by decide +kernel
theorem dL_law_854 : decode cL_law 854 = .ok (.iconst 1, 1) := by decide +kernel
theorem dL_law_855 : decode cL_law 855 = .ok (.iadd, 1) := by decide +kernel
theorem dL_law_856 : decode cL_law 856 = .ok (.iaload, 1) := by decide +kernel
theorem dL_law_857 : decode cL_law 857 = .ok (.invokevirtual 119, 3) := by decide +kernel
theorem dL_law_860 : decode cL_law 860 = .ok (.if_icmp .eq 761, 3) := by decide +kernel
theorem dL_law_863 : decode cL_law 863 = .ok (.iconst 0, 1) := by decide +kernel
theorem dL_law_864 : decode cL_law 864 = .ok (.ireturn, 1) := by decide +kernel
theorem dL_law_865 : decode cL_law 865 = .ok (.aload_n 1, 1) := by decide +kernel
theorem dL_law_866 : decode cL_law 866 = .ok (.aload_n 0, 1) := by decide +kernel
theorem dL_law_867 : decode cL_law 867 = .ok (.iload 4, 2) := by decide +kernel
theorem dL_law_869 : decode cL_law 869 = .ok (.iconst 1, 1) := by decide +kernel
theorem dL_law_870 : decode cL_law 870 = .ok (.iadd, 1) := by decide +kernel
theorem dL_law_871 : decode cL_law 871 = .ok (.iaload, 1) := by decide +kernel
theorem dL_law_872 : decode cL_law 872 = .ok (.invokevirtual 120, 3) := by decide +kernel
theorem dL_law_875 : decode cL_law 875 = .ok (.aload_n 2, 1) := by decide +kernel
theorem dL_law_876 : decode cL_law 876 = .ok (.aload_n 0, 1) := by decide +kernel
theorem dL_law_877 : decode cL_law 877 = .ok (.iload 4, 2) := by decide +kernel
theorem dL_law_879 : decode cL_law 879 = .ok (.iconst 1, 1) := by decide +kernel
theorem dL_law_880 : decode cL_law 880 = .ok (.iadd, 1) := by decide +kernel
theorem dL_law_881 : decode cL_law 881 = .ok (.iaload, 1) := by decide +kernel
theorem dL_law_882 : decode cL_law 882 = .ok (.invokevirtual 123, 3) := by decide +kernel
theorem dL_law_885 : decode cL_law 885 = .ok (.if_icmp .eq 736, 3) := by decide +kernel
theorem dL_law_888 : decode cL_law 888 = .ok (.iconst 0, 1) := by decide +kernel
theorem dL_law_889 : decode cL_law 889 = .ok (.ireturn, 1) := by decide +kernel
theorem dL_law_890 : decode cL_law 890 = .ok (.aload_n 1, 1) := by decide +kernel
theorem dL_law_891 : decode cL_law 891 = .ok (.aload_n 0, 1) := by decide +kernel
theorem dL_law_892 : decode cL_law 892 = .ok (.iload 4, 2) := by decide +kernel
theorem dL_law_894 : decode cL_law 894 = .ok (.iconst 1, 1) := by decide +kernel
theorem dL_law_895 : decode cL_law 895 = .ok (.iadd, 1) := by decide +kernel
theorem dL_law_896 : decode cL_law 896 = .ok (.iaload, 1) := by decide +kernel
theorem dL_law_897 : decode cL_law 897 = .ok (.invokevirtual 124, 3) := by decide +kernel
theorem dL_law_900 : decode cL_law 900 = .ok (.aload_n 2, 1) := by decide +kernel
theorem dL_law_901 : decode cL_law 901 = .ok (.aload_n 0, 1) := by decide +kernel
theorem dL_law_902 : decode cL_law 902 = .ok (.iload 4, 2) := by decide +kernel
theorem dL_law_904 : decode cL_law 904 = .ok (.iconst 1, 1) := by decide +kernel
theorem dL_law_905 : decode cL_law 905 = .ok (.iadd, 1) := by decide +kernel
theorem dL_law_906 : decode cL_law 906 = .ok (.iaload, 1) := by decide +kernel
theorem dL_law_907 : decode cL_law 907 = .ok (.invokevirtual 127, 3) := by decide +kernel
theorem dL_law_910 : decode cL_law 910 = .ok (.if_icmp .eq 711, 3) := by decide +kernel
theorem dL_law_913 : decode cL_law 913 = .ok (.iconst 0, 1) := by decide +kernel
theorem dL_law_914 : decode cL_law 914 = .ok (.ireturn, 1) := by decide +kernel
theorem dL_law_915 : decode cL_law 915 = .ok (.aload_n 1, 1) := by decide +kernel
theorem dL_law_916 : decode cL_law 916 = .ok (.aload_n 0, 1) := by decide +kernel
theorem dL_law_917 : decode cL_law 917 = .ok (.iload 4, 2) := by decide +kernel
theorem dL_law_919 : decode cL_law 919 = .ok (.iconst 1, 1) := by decide +kernel
theorem dL_law_920 : decode cL_law 920 = .ok (.iadd, 1) := by decide +kernel
theorem dL_law_921 : decode cL_law 921 = .ok (.iaload, 1) := by decide +kernel
theorem dL_law_922 : decode cL_law 922 = .ok (.aload_n 0, 1) := by decide +kernel
theorem dL_law_923 : decode cL_law 923 = .ok (.iload 4, 2) := by decide +kernel
theorem dL_law_925 : decode cL_law 925 = .ok (.iconst 2, 1) := by decide +kernel
theorem dL_law_926 : decode cL_law 926 = .ok (.iadd, 1) := by decide +kernel
theorem dL_law_927 : decode cL_law 927 = .ok (.iaload, 1) := by decide +kernel
theorem dL_law_928 : decode cL_law 928 = .ok (.invokevirtual 128, 3) := by decide +kernel
theorem dL_law_931 : decode cL_law 931 = .ok (.aload_n 2, 1) := by decide +kernel
theorem dL_law_932 : decode cL_law 932 = .ok (.aload_n 0, 1) := by decide +kernel
theorem dL_law_933 : decode cL_law 933 = .ok (.iload 4, 2) := by decide +kernel
theorem dL_law_935 : decode cL_law 935 = .ok (.iconst 1, 1) := by decide +kernel
theorem dL_law_936 : decode cL_law 936 = .ok (.iadd, 1) := by decide +kernel
theorem dL_law_937 : decode cL_law 937 = .ok (.iaload, 1) := by decide +kernel
theorem dL_law_938 : decode cL_law 938 = .ok (.aload_n 0, 1) := by decide +kernel
theorem dL_law_939 : decode cL_law 939 = .ok (.iload 4, 2) := by decide +kernel
theorem dL_law_941 : decode cL_law 941 = .ok (.iconst 2, 1) := by decide +kernel
theorem dL_law_942 : decode cL_law 942 = .ok (.iadd, 1) := by decide +kernel
theorem dL_law_943 : decode cL_law 943 = .ok (.iaload, 1) := by decide +kernel
theorem dL_law_944 : decode cL_law 944 = .ok (.invokevirtual 131, 3) := by decide +kernel
theorem dL_law_947 : decode cL_law 947 = .ok (.if_icmp .eq 674, 3) := by decide +kernel
theorem dL_law_950 : decode cL_law 950 = .ok (.iconst 0, 1) := by decide +kernel
theorem dL_law_951 : decode cL_law 951 = .ok (.ireturn, 1) := by decide +kernel
theorem dL_law_952 : decode cL_law 952 = .ok (.aload_n 1, 1) := by decide +kernel
theorem dL_law_953 : decode cL_law 953 = .ok (.aload_n 0, 1) := by decide +kernel
theorem dL_law_954 : decode cL_law 954 = .ok (.iload 4, 2) := by decide +kernel
theorem dL_law_956 : decode cL_law 956 = .ok (.iconst 1, 1) := by decide +kernel
theorem dL_law_957 : decode cL_law 957 = .ok (.iadd, 1) := by decide +kernel
theorem dL_law_958 : decode cL_law 958 = .ok (.iaload, 1) := by decide +kernel
theorem dL_law_959 : decode cL_law 959 = .ok (.aload_n 0, 1) := by decide +kernel
theorem dL_law_960 : decode cL_law 960 = .ok (.iload 4, 2) := by decide +kernel
theorem dL_law_962 : decode cL_law 962 = .ok (.iconst 2, 1) := by decide +kernel
theorem dL_law_963 : decode cL_law 963 = .ok (.iadd, 1) := by decide +kernel
theorem dL_law_964 : decode cL_law 964 = .ok (.iaload, 1) := by decide +kernel
theorem dL_law_965 : decode cL_law 965 = .ok (.invokevirtual 132, 3) := by decide +kernel
theorem dL_law_968 : decode cL_law 968 = .ok (.aload_n 2, 1) := by decide +kernel
theorem dL_law_969 : decode cL_law 969 = .ok (.aload_n 0, 1) := by decide +kernel
theorem dL_law_970 : decode cL_law 970 = .ok (.iload 4, 2) := by decide +kernel
theorem dL_law_972 : decode cL_law 972 = .ok (.iconst 1, 1) := by decide +kernel
theorem dL_law_973 : decode cL_law 973 = .ok (.iadd, 1) := by decide +kernel
theorem dL_law_974 : decode cL_law 974 = .ok (.iaload, 1) := by decide +kernel
theorem dL_law_975 : decode cL_law 975 = .ok (.aload_n 0, 1) := by decide +kernel
theorem dL_law_976 : decode cL_law 976 = .ok (.iload 4, 2) := by decide +kernel
theorem dL_law_978 : decode cL_law 978 = .ok (.iconst 2, 1) := by decide +kernel
theorem dL_law_979 : decode cL_law 979 = .ok (.iadd, 1) := by decide +kernel
theorem dL_law_980 : decode cL_law 980 = .ok (.iaload, 1) := by decide +kernel
theorem dL_law_981 : decode cL_law 981 = .ok (.invokevirtual 135, 3) := by decide +kernel
theorem dL_law_984 : decode cL_law 984 = .ok (.if_icmp .eq 637, 3) := by decide +kernel
theorem dL_law_987 : decode cL_law 987 = .ok (.iconst 0, 1) := by decide +kernel
theorem dL_law_988 : decode cL_law 988 = .ok (.ireturn, 1) := by decide +kernel
theorem dL_law_989 : decode cL_law 989 = .ok (.aload_n 1, 1) := by decide +kernel
theorem dL_law_990 : decode cL_law 990 = .ok (.aload_n 0, 1) := by decide +kernel
theorem dL_law_991 : decode cL_law 991 = .ok (.iload 4, 2) := by decide +kernel
theorem dL_law_993 : decode cL_law 993 = .ok (.iconst 1, 1) := by decide +kernel
theorem dL_law_994 : decode cL_law 994 = .ok (.iadd, 1) := by decide +kernel
theorem dL_law_995 : decode cL_law 995 = .ok (.iaload, 1) := by decide +kernel
theorem dL_law_996 : decode cL_law 996 = .ok (.aload_n 0, 1) := by decide +kernel
theorem dL_law_997 : decode cL_law 997 = .ok (.iload 4, 2) := by decide +kernel
theorem dL_law_999 : decode cL_law 999 = .ok (.iconst 2, 1) := by decide +kernel
theorem dL_law_1000 : decode cL_law 1000 = .ok (.iadd, 1) := by decide +kernel
theorem dL_law_1001 : decode cL_law 1001 = .ok (.iaload, 1) := by decide +kernel
theorem dL_law_1002 : decode cL_law 1002 = .ok (.invokevirtual 136, 3) := by decide +kernel
theorem dL_law_1005 : decode cL_law 1005 = .ok (.aload_n 2, 1) := by decide +kernel
theorem dL_law_1006 : decode cL_law 1006 = .ok (.aload_n 0, 1) := by decide +kernel
theorem dL_law_1007 : decode cL_law 1007 = .ok (.iload 4, 2) := by decide +kernel
theorem dL_law_1009 : decode cL_law 1009 = .ok (.iconst 1, 1) := by decide +kernel
theorem dL_law_1010 : decode cL_law 1010 = .ok (.iadd, 1) := by decide +kernel
theorem dL_law_1011 : decode cL_law 1011 = .ok (.iaload, 1) := by decide +kernel
theorem dL_law_1012 : decode cL_law 1012 = .ok (.aload_n 0, 1) := by decide +kernel
theorem dL_law_1013 : decode cL_law 1013 = .ok (.iload 4, 2) := by decide +kernel
theorem dL_law_1015 : decode cL_law 1015 = .ok (.iconst 2, 1) := by decide +kernel
theorem dL_law_1016 : decode cL_law 1016 = .ok (.iadd, 1) := by decide +kernel
theorem dL_law_1017 : decode cL_law 1017 = .ok (.iaload, 1) := by decide +kernel
theorem dL_law_1018 : decode cL_law 1018 = .ok (.invokevirtual 139, 3) := by decide +kernel
theorem dL_law_1021 : decode cL_law 1021 = .ok (.if_icmp .eq 600, 3) := by decide +kernel
theorem dL_law_1024 : decode cL_law 1024 = .ok (.iconst 0, 1) := by decide +kernel
theorem dL_law_1025 : decode cL_law 1025 = .ok (.ireturn, 1) := by decide +kernel
theorem dL_law_1026 : decode cL_law 1026 = .ok (.aload_n 1, 1) := by decide +kernel
theorem dL_law_1027 : decode cL_law 1027 = .ok (.aload_n 0, 1) := by decide +kernel
theorem dL_law_1028 : decode cL_law 1028 = .ok (.iload 4, 2) := by decide +kernel
theorem dL_law_1030 : decode cL_law 1030 = .ok (.iconst 1, 1) := by decide +kernel
theorem dL_law_1031 : decode cL_law 1031 = .ok (.iadd, 1) := by decide +kernel
theorem dL_law_1032 : decode cL_law 1032 = .ok (.iaload, 1) := by decide +kernel
theorem dL_law_1033 : decode cL_law 1033 = .ok (.invokevirtual 140, 3) := by decide +kernel
theorem dL_law_1036 : decode cL_law 1036 = .ok (.aload_n 2, 1) := by decide +kernel
theorem dL_law_1037 : decode cL_law 1037 = .ok (.aload_n 0, 1) := by decide +kernel
theorem dL_law_1038 : decode cL_law 1038 = .ok (.iload 4, 2) := by decide +kernel
theorem dL_law_1040 : decode cL_law 1040 = .ok (.iconst 1, 1) := by decide +kernel
theorem dL_law_1041 : decode cL_law 1041 = .ok (.iadd, 1) := by decide +kernel
theorem dL_law_1042 : decode cL_law 1042 = .ok (.iaload, 1) := by decide +kernel
theorem dL_law_1043 : decode cL_law 1043 = .ok (.invokevirtual 143, 3) := by decide +kernel
theorem dL_law_1046 : decode cL_law 1046 = .ok (.if_icmp .eq 575, 3) := by decide +kernel
theorem dL_law_1049 : decode cL_law 1049 = .ok (.iconst 0, 1) := by decide +kernel
theorem dL_law_1050 : decode cL_law 1050 = .ok (.ireturn, 1) := by decide +kernel
theorem dL_law_1051 : decode cL_law 1051 = .ok (.aload_n 1, 1) := by decide +kernel
theorem dL_law_1052 : decode cL_law 1052 = .ok (.aload_n 0, 1) := by decide +kernel
theorem dL_law_1053 : decode cL_law 1053 = .ok (.iload 4, 2) := by decide +kernel
theorem dL_law_1055 : decode cL_law 1055 = .ok (.iconst 1, 1) := by decide +kernel
theorem dL_law_1056 : decode cL_law 1056 = .ok (.iadd, 1) := by decide +kernel
theorem dL_law_1057 : decode cL_law 1057 = .ok (.iaload, 1) := by decide +kernel
theorem dL_law_1058 : decode cL_law 1058 = .ok (.aload_n 0, 1) := by decide +kernel
theorem dL_law_1059 : decode cL_law 1059 = .ok (.iload 4, 2) := by decide +kernel
theorem dL_law_1061 : decode cL_law 1061 = .ok (.iconst 2, 1) := by decide +kernel
theorem dL_law_1062 : decode cL_law 1062 = .ok (.iadd, 1) := by decide +kernel
theorem dL_law_1063 : decode cL_law 1063 = .ok (.iaload, 1) := by decide +kernel
theorem dL_law_1064 : decode cL_law 1064 = .ok (.invokevirtual 144, 3) := by decide +kernel
theorem dL_law_1067 : decode cL_law 1067 = .ok (.aload_n 2, 1) := by decide +kernel
theorem dL_law_1068 : decode cL_law 1068 = .ok (.aload_n 0, 1) := by decide +kernel
theorem dL_law_1069 : decode cL_law 1069 = .ok (.iload 4, 2) := by decide +kernel
theorem dL_law_1071 : decode cL_law 1071 = .ok (.iconst 1, 1) := by decide +kernel
theorem dL_law_1072 : decode cL_law 1072 = .ok (.iadd, 1) := by decide +kernel
theorem dL_law_1073 : decode cL_law 1073 = .ok (.iaload, 1) := by decide +kernel
theorem dL_law_1074 : decode cL_law 1074 = .ok (.aload_n 0, 1) := by decide +kernel
theorem dL_law_1075 : decode cL_law 1075 = .ok (.iload 4, 2) := by decide +kernel
theorem dL_law_1077 : decode cL_law 1077 = .ok (.iconst 2, 1) := by decide +kernel
theorem dL_law_1078 : decode cL_law 1078 = .ok (.iadd, 1) := by decide +kernel
theorem dL_law_1079 : decode cL_law 1079 = .ok (.iaload, 1) := by decide +kernel
theorem dL_law_1080 : decode cL_law 1080 = .ok (.invokevirtual 147, 3) := by decide +kernel
theorem dL_law_1083 : decode cL_law 1083 = .ok (.if_icmp .eq 538, 3) := by decide +kernel
theorem dL_law_1086 : decode cL_law 1086 = .ok (.iconst 0, 1) := by decide +kernel
theorem dL_law_1087 : decode cL_law 1087 = .ok (.ireturn, 1) := by decide +kernel
theorem dL_law_1088 : decode cL_law 1088 = .ok (.aload_n 1, 1) := by decide +kernel
theorem dL_law_1089 : decode cL_law 1089 = .ok (.aload_n 0, 1) := by decide +kernel
theorem dL_law_1090 : decode cL_law 1090 = .ok (.iload 4, 2) := by decide +kernel
theorem dL_law_1092 : decode cL_law 1092 = .ok (.iconst 1, 1) := by decide +kernel
theorem dL_law_1093 : decode cL_law 1093 = .ok (.iadd, 1) := by decide +kernel
theorem dL_law_1094 : decode cL_law 1094 = .ok (.iaload, 1) := by decide +kernel
theorem dL_law_1095 : decode cL_law 1095 = .ok (.invokevirtual 148, 3) := by decide +kernel
theorem dL_law_1098 : decode cL_law 1098 = .ok (.aload_n 2, 1) := by decide +kernel
theorem dL_law_1099 : decode cL_law 1099 = .ok (.aload_n 0, 1) := by decide +kernel
theorem dL_law_1100 : decode cL_law 1100 = .ok (.iload 4, 2) := by decide +kernel
theorem dL_law_1102 : decode cL_law 1102 = .ok (.iconst 1, 1) := by decide +kernel
theorem dL_law_1103 : decode cL_law 1103 = .ok (.iadd, 1) := by decide +kernel
theorem dL_law_1104 : decode cL_law 1104 = .ok (.iaload, 1) := by decide +kernel
theorem dL_law_1105 : decode cL_law 1105 = .ok (.invokevirtual 151, 3) := by decide +kernel
theorem dL_law_1108 : decode cL_law 1108 = .ok (.if_icmp .eq 513, 3) := by decide +kernel
theorem dL_law_1111 : decode cL_law 1111 = .ok (.iconst 0, 1) := by decide +kernel
theorem dL_law_1112 : decode cL_law 1112 = .ok (.ireturn, 1) := by decide +kernel
theorem dL_law_1113 : decode cL_law 1113 = .ok (.aload_n 1, 1) := by decide +kernel
theorem dL_law_1114 : decode cL_law 1114 = .ok (.invokevirtual 152, 3) := by decide +kernel
theorem dL_law_1117 : decode cL_law 1117 = .ok (.aload_n 2, 1) := by decide +kernel
theorem dL_law_1118 : decode cL_law 1118 = .ok (.invokevirtual 155, 3) := by decide +kernel
theorem dL_law_1121 : decode cL_law 1121 = .ok (.if_icmp .eq 500, 3) := by decide +kernel
theorem dL_law_1124 : decode cL_law 1124 = .ok (.iconst 0, 1) := by decide +kernel
theorem dL_law_1125 : decode cL_law 1125 = .ok (.ireturn, 1) := by decide +kernel
theorem dL_law_1126 : decode cL_law 1126 = .ok (.aload_n 1, 1) := by decide +kernel
theorem dL_law_1127 : decode cL_law 1127 = .ok (.invokevirtual 156, 3) := by decide +kernel
theorem dL_law_1130 : decode cL_law 1130 = .ok (.aload_n 2, 1) := by decide +kernel
theorem dL_law_1131 : decode cL_law 1131 = .ok (.invokevirtual 159, 3) := by decide +kernel
theorem dL_law_1134 : decode cL_law 1134 = .ok (.if_icmp .eq 487, 3) := by decide +kernel
theorem dL_law_1137 : decode cL_law 1137 = .ok (.iconst 0, 1) := by decide +kernel
theorem dL_law_1138 : decode cL_law 1138 = .ok (.ireturn, 1) := by decide +kernel
theorem dL_law_1139 : decode cL_law 1139 = .ok (.aload_n 1, 1) := by decide +kernel
theorem dL_law_1140 : decode cL_law 1140 = .ok (.invokevirtual 160, 3) := by decide +kernel
theorem dL_law_1143 : decode cL_law 1143 = .ok (.aload_n 2, 1) := by decide +kernel
theorem dL_law_1144 : decode cL_law 1144 = .ok (.invokevirtual 163, 3) := by decide +kernel
theorem dL_law_1147 : decode cL_law 1147 = .ok (.if_icmp .eq 474, 3) := by decide +kernel
theorem dL_law_1150 : decode cL_law 1150 = .ok (.iconst 0, 1) := by decide +kernel
theorem dL_law_1151 : decode cL_law 1151 = .ok (.ireturn, 1) := by decide +kernel
theorem dL_law_1152 : decode cL_law 1152 = .ok (.aload_n 1, 1) := by decide +kernel
theorem dL_law_1153 : decode cL_law 1153 = .ok (.aload_n 0, 1) := by decide +kernel
theorem dL_law_1154 : decode cL_law 1154 = .ok (.iload 4, 2) := by decide +kernel
theorem dL_law_1156 : decode cL_law 1156 = .ok (.iconst 1, 1) := by decide +kernel
theorem dL_law_1157 : decode cL_law 1157 = .ok (.iadd, 1) := by decide +kernel
theorem dL_law_1158 : decode cL_law 1158 = .ok (.iaload, 1) := by decide +kernel
theorem dL_law_1159 : decode cL_law 1159 = .ok (.invokevirtual 164, 3) := by decide +kernel
theorem dL_law_1162 : decode cL_law 1162 = .ok (.aload_n 2, 1) := by decide +kernel
theorem dL_law_1163 : decode cL_law 1163 = .ok (.aload_n 0, 1) := by decide +kernel
theorem dL_law_1164 : decode cL_law 1164 = .ok (.iload 4, 2) := by decide +kernel
theorem dL_law_1166 : decode cL_law 1166 = .ok (.iconst 1, 1) := by decide +kernel
theorem dL_law_1167 : decode cL_law 1167 = .ok (.iadd, 1) := by decide +kernel
theorem dL_law_1168 : decode cL_law 1168 = .ok (.iaload, 1) := by decide +kernel
theorem dL_law_1169 : decode cL_law 1169 = .ok (.invokevirtual 167, 3) := by decide +kernel
theorem dL_law_1172 : decode cL_law 1172 = .ok (.if_icmp .eq 449, 3) := by decide +kernel
theorem dL_law_1175 : decode cL_law 1175 = .ok (.iconst 0, 1) := by decide +kernel
theorem dL_law_1176 : decode cL_law 1176 = .ok (.ireturn, 1) := by decide +kernel
theorem dL_law_1177 : decode cL_law 1177 = .ok (.aload_n 1, 1) := by decide +kernel
theorem dL_law_1178 : decode cL_law 1178 = .ok (.invokevirtual 168, 3) := by decide +kernel
theorem dL_law_1181 : decode cL_law 1181 = .ok (.aload_n 2, 1) := by decide +kernel
theorem dL_law_1182 : decode cL_law 1182 = .ok (.invokevirtual 171, 3) := by decide +kernel
theorem dL_law_1185 : decode cL_law 1185 = .ok (.if_icmp .eq 436, 3) := by decide +kernel
theorem dL_law_1188 : decode cL_law 1188 = .ok (.iconst 0, 1) := by decide +kernel
theorem dL_law_1189 : decode cL_law 1189 = .ok (.ireturn, 1) := by decide +kernel
theorem dL_law_1190 : decode cL_law 1190 = .ok (.aload_n 1, 1) := by decide +kernel
theorem dL_law_1191 : decode cL_law 1191 = .ok (.aload_n 0, 1) := by decide +kernel
theorem dL_law_1192 : decode cL_law 1192 = .ok (.iload 4, 2) := by decide +kernel
theorem dL_law_1194 : decode cL_law 1194 = .ok (.iconst 1, 1) := by decide +kernel
theorem dL_law_1195 : decode cL_law 1195 = .ok (.iadd, 1) := by decide +kernel
theorem dL_law_1196 : decode cL_law 1196 = .ok (.iaload, 1) := by decide +kernel
theorem dL_law_1197 : decode cL_law 1197 = .ok (.aload_n 0, 1) := by decide +kernel
theorem dL_law_1198 : decode cL_law 1198 = .ok (.iload 4, 2) := by decide +kernel
theorem dL_law_1200 : decode cL_law 1200 = .ok (.iconst 2, 1) := by decide +kernel
theorem dL_law_1201 : decode cL_law 1201 = .ok (.iadd, 1) := by decide +kernel
theorem dL_law_1202 : decode cL_law 1202 = .ok (.iaload, 1) := by decide +kernel
theorem dL_law_1203 : decode cL_law 1203 = .ok (.invokevirtual 172, 3) := by decide +kernel
theorem dL_law_1206 : decode cL_law 1206 = .ok (.aload_n 2, 1) := by decide +kernel
theorem dL_law_1207 : decode cL_law 1207 = .ok (.aload_n 0, 1) := by decide +kernel
theorem dL_law_1208 : decode cL_law 1208 = .ok (.iload 4, 2) := by decide +kernel
theorem dL_law_1210 : decode cL_law 1210 = .ok (.iconst 1, 1) := by decide +kernel
theorem dL_law_1211 : decode cL_law 1211 = .ok (.iadd, 1) := by decide +kernel
theorem dL_law_1212 : decode cL_law 1212 = .ok (.iaload, 1) := by decide +kernel
theorem dL_law_1213 : decode cL_law 1213 = .ok (.aload_n 0, 1) := by decide +kernel
theorem dL_law_1214 : decode cL_law 1214 = .ok (.iload 4, 2) := by decide +kernel
theorem dL_law_1216 : decode cL_law 1216 = .ok (.iconst 2, 1) := by decide +kernel
theorem dL_law_1217 : decode cL_law 1217 = .ok (.iadd, 1) := by decide +kernel
theorem dL_law_1218 : decode cL_law 1218 = .ok (.iaload, 1) := by decide +kernel
theorem dL_law_1219 : decode cL_law 1219 = .ok (.invokevirtual 175, 3) := by decide +kernel
theorem dL_law_1222 : decode cL_law 1222 = .ok (.if_icmp .eq 399, 3) := by decide +kernel
theorem dL_law_1225 : decode cL_law 1225 = .ok (.iconst 0, 1) := by decide +kernel
theorem dL_law_1226 : decode cL_law 1226 = .ok (.ireturn, 1) := by decide +kernel
theorem dL_law_1227 : decode cL_law 1227 = .ok (.aload_n 1, 1) := by decide +kernel
theorem dL_law_1228 : decode cL_law 1228 = .ok (.invokevirtual 176, 3) := by decide +kernel
theorem dL_law_1231 : decode cL_law 1231 = .ok (.aload_n 2, 1) := by decide +kernel
theorem dL_law_1232 : decode cL_law 1232 = .ok (.invokevirtual 179, 3) := by decide +kernel
theorem dL_law_1235 : decode cL_law 1235 = .ok (.if_icmp .eq 386, 3) := by decide +kernel
theorem dL_law_1238 : decode cL_law 1238 = .ok (.iconst 0, 1) := by decide +kernel
theorem dL_law_1239 : decode cL_law 1239 = .ok (.ireturn, 1) := by decide +kernel
theorem dL_law_1240 : decode cL_law 1240 = .ok (.aload_n 1, 1) := by decide +kernel
theorem dL_law_1241 : decode cL_law 1241 = .ok (.invokevirtual 180, 3) := by decide +kernel
theorem dL_law_1244 : decode cL_law 1244 = .ok (.aload_n 2, 1) := by decide +kernel
theorem dL_law_1245 : decode cL_law 1245 = .ok (.invokevirtual 183, 3) := by decide +kernel
theorem dL_law_1248 : decode cL_law 1248 = .ok (.if_icmp .eq 373, 3) := by decide +kernel
theorem dL_law_1251 : decode cL_law 1251 = .ok (.iconst 0, 1) := by decide +kernel
theorem dL_law_1252 : decode cL_law 1252 = .ok (.ireturn, 1) := by decide +kernel
theorem dL_law_1253 : decode cL_law 1253 = .ok (.aload_n 1, 1) := by decide +kernel
theorem dL_law_1254 : decode cL_law 1254 = .ok (.invokevirtual 184, 3) := by decide +kernel
theorem dL_law_1257 : decode cL_law 1257 = .ok (.aload_n 2, 1) := by decide +kernel
theorem dL_law_1258 : decode cL_law 1258 = .ok (.invokevirtual 187, 3) := by decide +kernel
theorem dL_law_1261 : decode cL_law 1261 = .ok (.if_icmp .eq 360, 3) := by decide +kernel
theorem dL_law_1264 : decode cL_law 1264 = .ok (.iconst 0, 1) := by decide +kernel
theorem dL_law_1265 : decode cL_law 1265 = .ok (.ireturn, 1) := by decide +kernel
theorem dL_law_1266 : decode cL_law 1266 = .ok (.aload_n 1, 1) := by decide +kernel
theorem dL_law_1267 : decode cL_law 1267 = .ok (.aload_n 0, 1) := by decide +kernel
theorem dL_law_1268 : decode cL_law 1268 = .ok (.iload 4, 2) := by decide +kernel
theorem dL_law_1270 : decode cL_law 1270 = .ok (.iconst 1, 1) := by decide +kernel
theorem dL_law_1271 : decode cL_law 1271 = .ok (.iadd, 1) := by decide +kernel
theorem dL_law_1272 : decode cL_law 1272 = .ok (.iaload, 1) := by decide +kernel
theorem dL_law_1273 : decode cL_law 1273 = .ok (.aload_n 0, 1) := by decide +kernel
theorem dL_law_1274 : decode cL_law 1274 = .ok (.iload 4, 2) := by decide +kernel
theorem dL_law_1276 : decode cL_law 1276 = .ok (.iconst 2, 1) := by decide +kernel
theorem dL_law_1277 : decode cL_law 1277 = .ok (.iadd, 1) := by decide +kernel
theorem dL_law_1278 : decode cL_law 1278 = .ok (.iaload, 1) := by decide +kernel
theorem dL_law_1279 : decode cL_law 1279 = .ok (.invokevirtual 188, 3) := by decide +kernel
theorem dL_law_1282 : decode cL_law 1282 = .ok (.aload_n 2, 1) := by decide +kernel
theorem dL_law_1283 : decode cL_law 1283 = .ok (.aload_n 0, 1) := by decide +kernel
theorem dL_law_1284 : decode cL_law 1284 = .ok (.iload 4, 2) := by decide +kernel
theorem dL_law_1286 : decode cL_law 1286 = .ok (.iconst 1, 1) := by decide +kernel
theorem dL_law_1287 : decode cL_law 1287 = .ok (.iadd, 1) := by decide +kernel
theorem dL_law_1288 : decode cL_law 1288 = .ok (.iaload, 1) := by decide +kernel
theorem dL_law_1289 : decode cL_law 1289 = .ok (.aload_n 0, 1) := by decide +kernel
theorem dL_law_1290 : decode cL_law 1290 = .ok (.iload 4, 2) := by decide +kernel
theorem dL_law_1292 : decode cL_law 1292 = .ok (.iconst 2, 1) := by decide +kernel
theorem dL_law_1293 : decode cL_law 1293 = .ok (.iadd, 1) := by decide +kernel
theorem dL_law_1294 : decode cL_law 1294 = .ok (.iaload, 1) := by decide +kernel
theorem dL_law_1295 : decode cL_law 1295 = .ok (.invokevirtual 191, 3) := by decide +kernel
theorem dL_law_1298 : decode cL_law 1298 = .ok (.if_icmp .eq 323, 3) := by decide +kernel
theorem dL_law_1301 : decode cL_law 1301 = .ok (.iconst 0, 1) := by decide +kernel
theorem dL_law_1302 : decode cL_law 1302 = .ok (.ireturn, 1) := by decide +kernel
theorem dL_law_1303 : decode cL_law 1303 = .ok (.aload_n 1, 1) := by decide +kernel
theorem dL_law_1304 : decode cL_law 1304 = .ok (.invokevirtual 192, 3) := by decide +kernel
theorem dL_law_1307 : decode cL_law 1307 = .ok (.aload_n 2, 1) := by decide +kernel
theorem dL_law_1308 : decode cL_law 1308 = .ok (.invokevirtual 195, 3) := by decide +kernel
theorem dL_law_1311 : decode cL_law 1311 = .ok (.if_icmp .eq 310, 3) := by decide +kernel
theorem dL_law_1314 : decode cL_law 1314 = .ok (.iconst 0, 1) := by decide +kernel
theorem dL_law_1315 : decode cL_law 1315 = .ok (.ireturn, 1) := by decide +kernel
theorem dL_law_1316 : decode cL_law 1316 = .ok (.aload_n 1, 1) := by decide +kernel
theorem dL_law_1317 : decode cL_law 1317 = .ok (.invokevirtual 196, 3) := by decide +kernel
theorem dL_law_1320 : decode cL_law 1320 = .ok (.aload_n 2, 1) := by decide +kernel
theorem dL_law_1321 : decode cL_law 1321 = .ok (.invokevirtual 199, 3) := by decide +kernel
theorem dL_law_1324 : decode cL_law 1324 = .ok (.if_icmp .eq 297, 3) := by decide +kernel
theorem dL_law_1327 : decode cL_law 1327 = .ok (.iconst 0, 1) := by decide +kernel
theorem dL_law_1328 : decode cL_law 1328 = .ok (.ireturn, 1) := by decide +kernel
theorem dL_law_1329 : decode cL_law 1329 = .ok (.aload_n 1, 1) := by decide +kernel
theorem dL_law_1330 : decode cL_law 1330 = .ok (.invokevirtual 200, 3) := by decide +kernel
theorem dL_law_1333 : decode cL_law 1333 = .ok (.aload_n 2, 1) := by decide +kernel
theorem dL_law_1334 : decode cL_law 1334 = .ok (.invokevirtual 203, 3) := by decide +kernel
theorem dL_law_1337 : decode cL_law 1337 = .ok (.if_icmp .eq 284, 3) := by decide +kernel
theorem dL_law_1340 : decode cL_law 1340 = .ok (.iconst 0, 1) := by decide +kernel
theorem dL_law_1341 : decode cL_law 1341 = .ok (.ireturn, 1) := by decide +kernel
theorem dL_law_1342 : decode cL_law 1342 = .ok (.aload_n 1, 1) := by decide +kernel
theorem dL_law_1343 : decode cL_law 1343 = .ok (.aload_n 0, 1) := by decide +kernel
theorem dL_law_1344 : decode cL_law 1344 = .ok (.iload 4, 2) := by decide +kernel
theorem dL_law_1346 : decode cL_law 1346 = .ok (.iconst 1, 1) := by decide +kernel
theorem dL_law_1347 : decode cL_law 1347 = .ok (.iadd, 1) := by decide +kernel
theorem dL_law_1348 : decode cL_law 1348 = .ok (.iaload, 1) := by decide +kernel
theorem dL_law_1349 : decode cL_law 1349 = .ok (.aload_n 0, 1) := by decide +kernel
theorem dL_law_1350 : decode cL_law 1350 = .ok (.iload 4, 2) := by decide +kernel
theorem dL_law_1352 : decode cL_law 1352 = .ok (.iconst 2, 1) := by decide +kernel
theorem dL_law_1353 : decode cL_law 1353 = .ok (.iadd, 1) := by decide +kernel
theorem dL_law_1354 : decode cL_law 1354 = .ok (.iaload, 1) := by decide +kernel
theorem dL_law_1355 : decode cL_law 1355 = .ok (.invokevirtual 204, 3) := by decide +kernel
theorem dL_law_1358 : decode cL_law 1358 = .ok (.aload_n 2, 1) := by decide +kernel
theorem dL_law_1359 : decode cL_law 1359 = .ok (.aload_n 0, 1) := by decide +kernel
theorem dL_law_1360 : decode cL_law 1360 = .ok (.iload 4, 2) := by decide +kernel
theorem dL_law_1362 : decode cL_law 1362 = .ok (.iconst 1, 1) := by decide +kernel
theorem dL_law_1363 : decode cL_law 1363 = .ok (.iadd, 1) := by decide +kernel
theorem dL_law_1364 : decode cL_law 1364 = .ok (.iaload, 1) := by decide +kernel
theorem dL_law_1365 : decode cL_law 1365 = .ok (.aload_n 0, 1) := by decide +kernel
theorem dL_law_1366 : decode cL_law 1366 = .ok (.iload 4, 2) := by decide +kernel
theorem dL_law_1368 : decode cL_law 1368 = .ok (.iconst 2, 1) := by decide +kernel
theorem dL_law_1369 : decode cL_law 1369 = .ok (.iadd, 1) := by decide +kernel
theorem dL_law_1370 : decode cL_law 1370 = .ok (.iaload, 1) := by decide +kernel
theorem dL_law_1371 : decode cL_law 1371 = .ok (.invokevirtual 207, 3) := by decide +kernel
theorem dL_law_1374 : decode cL_law 1374 = .ok (.if_icmp .eq 247, 3) := by decide +kernel
theorem dL_law_1377 : decode cL_law 1377 = .ok (.iconst 0, 1) := by decide +kernel
theorem dL_law_1378 : decode cL_law 1378 = .ok (.ireturn, 1) := by decide +kernel
theorem dL_law_1379 : decode cL_law 1379 = .ok (.aload_n 1, 1) := by decide +kernel
theorem dL_law_1380 : decode cL_law 1380 = .ok (.aload_n 0, 1) := by decide +kernel
theorem dL_law_1381 : decode cL_law 1381 = .ok (.iload 4, 2) := by decide +kernel
theorem dL_law_1383 : decode cL_law 1383 = .ok (.iconst 1, 1) := by decide +kernel
theorem dL_law_1384 : decode cL_law 1384 = .ok (.iadd, 1) := by decide +kernel
theorem dL_law_1385 : decode cL_law 1385 = .ok (.iaload, 1) := by decide +kernel
theorem dL_law_1386 : decode cL_law 1386 = .ok (.aload_n 0, 1) := by decide +kernel
theorem dL_law_1387 : decode cL_law 1387 = .ok (.iload 4, 2) := by decide +kernel
theorem dL_law_1389 : decode cL_law 1389 = .ok (.iconst 2, 1) := by decide +kernel
theorem dL_law_1390 : decode cL_law 1390 = .ok (.iadd, 1) := by decide +kernel
theorem dL_law_1391 : decode cL_law 1391 = .ok (.iaload, 1) := by decide +kernel
theorem dL_law_1392 : decode cL_law 1392 = .ok (.invokevirtual 208, 3) := by decide +kernel
theorem dL_law_1395 : decode cL_law 1395 = .ok (.aload_n 2, 1) := by decide +kernel
theorem dL_law_1396 : decode cL_law 1396 = .ok (.aload_n 0, 1) := by decide +kernel
theorem dL_law_1397 : decode cL_law 1397 = .ok (.iload 4, 2) := by decide +kernel
theorem dL_law_1399 : decode cL_law 1399 = .ok (.iconst 1, 1) := by decide +kernel
theorem dL_law_1400 : decode cL_law 1400 = .ok (.iadd, 1) := by decide +kernel
theorem dL_law_1401 : decode cL_law 1401 = .ok (.iaload, 1) := by decide +kernel
theorem dL_law_1402 : decode cL_law 1402 = .ok (.aload_n 0, 1) := by decide +kernel
theorem dL_law_1403 : decode cL_law 1403 = .ok (.iload 4, 2) := by decide +kernel
theorem dL_law_1405 : decode cL_law 1405 = .ok (.iconst 2, 1) := by decide +kernel
theorem dL_law_1406 : decode cL_law 1406 = .ok (.iadd, 1) := by decide +kernel
theorem dL_law_1407 : decode cL_law 1407 = .ok (.iaload, 1) := by decide +kernel
theorem dL_law_1408 : decode cL_law 1408 = .ok (.invokevirtual 211, 3) := by decide +kernel
theorem dL_law_1411 : decode cL_law 1411 = .ok (.if_icmp .eq 210, 3) := by decide +kernel
theorem dL_law_1414 : decode cL_law 1414 = .ok (.iconst 0, 1) := by decide +kernel
theorem dL_law_1415 : decode cL_law 1415 = .ok (.ireturn, 1) := by decide +kernel
theorem dL_law_1416 : decode cL_law 1416 = .ok (.aload_n 1, 1) := by decide +kernel
theorem dL_law_1417 : decode cL_law 1417 = .ok (.aload_n 0, 1) := by decide +kernel
theorem dL_law_1418 : decode cL_law 1418 = .ok (.iload 4, 2) := by decide +kernel
theorem dL_law_1420 : decode cL_law 1420 = .ok (.iconst 1, 1) := by decide +kernel
theorem dL_law_1421 : decode cL_law 1421 = .ok (.iadd, 1) := by decide +kernel
theorem dL_law_1422 : decode cL_law 1422 = .ok (.iaload, 1) := by decide +kernel
theorem dL_law_1423 : decode cL_law 1423 = .ok (.invokevirtual 212, 3) := by decide +kernel
theorem dL_law_1426 : decode cL_law 1426 = .ok (.aload_n 2, 1) := by decide +kernel
theorem dL_law_1427 : decode cL_law 1427 = .ok (.aload_n 0, 1) := by decide +kernel
theorem dL_law_1428 : decode cL_law 1428 = .ok (.iload 4, 2) := by decide +kernel
theorem dL_law_1430 : decode cL_law 1430 = .ok (.iconst 1, 1) := by decide +kernel
theorem dL_law_1431 : decode cL_law 1431 = .ok (.iadd, 1) := by decide +kernel
theorem dL_law_1432 : decode cL_law 1432 = .ok (.iaload, 1) := by decide +kernel
theorem dL_law_1433 : decode cL_law 1433 = .ok (.invokevirtual 215, 3) := by decide +kernel
theorem dL_law_1436 : decode cL_law 1436 = .ok (.if_icmp .eq 185, 3) := by decide +kernel
theorem dL_law_1439 : decode cL_law 1439 = .ok (.iconst 0, 1) := by decide +kernel
theorem dL_law_1440 : decode cL_law 1440 = .ok (.ireturn, 1) := by decide +kernel
theorem dL_law_1441 : decode cL_law 1441 = .ok (.aload_n 1, 1) := by decide +kernel
theorem dL_law_1442 : decode cL_law 1442 = .ok (.invokevirtual 216, 3) := by decide +kernel
theorem dL_law_1445 : decode cL_law 1445 = .ok (.aload_n 2, 1) := by decide +kernel
theorem dL_law_1446 : decode cL_law 1446 = .ok (.invokevirtual 219, 3) := by decide +kernel
theorem dL_law_1449 : decode cL_law 1449 = .ok (.if_icmp .eq 172, 3) := by decide +kernel
theorem dL_law_1452 : decode cL_law 1452 = .ok (.iconst 0, 1) := by decide +kernel
theorem dL_law_1453 : decode cL_law 1453 = .ok (.ireturn, 1) := by decide +kernel
theorem dL_law_1454 : decode cL_law 1454 = .ok (.aload_n 1, 1) := by decide +kernel
theorem dL_law_1455 : decode cL_law 1455 = .ok (.aload_n 0, 1) := by decide +kernel
theorem dL_law_1456 : decode cL_law 1456 = .ok (.iload 4, 2) := by decide +kernel
theorem dL_law_1458 : decode cL_law 1458 = .ok (.iconst 1, 1) := by decide +kernel
theorem dL_law_1459 : decode cL_law 1459 = .ok (.iadd, 1) := by decide +kernel
theorem dL_law_1460 : decode cL_law 1460 = .ok (.iaload, 1) := by decide +kernel
theorem dL_law_1461 : decode cL_law 1461 = .ok (.aload_n 0, 1) := by decide +kernel
theorem dL_law_1462 : decode cL_law 1462 = .ok (.iload 4, 2) := by decide +kernel
theorem dL_law_1464 : decode cL_law 1464 = .ok (.iconst 2, 1) := by decide +kernel
theorem dL_law_1465 : decode cL_law 1465 = .ok (.iadd, 1) := by decide +kernel
theorem dL_law_1466 : decode cL_law 1466 = .ok (.iaload, 1) := by decide +kernel
theorem dL_law_1467 : decode cL_law 1467 = .ok (.invokevirtual 220, 3) := by decide +kernel
theorem dL_law_1470 : decode cL_law 1470 = .ok (.aload_n 2, 1) := by decide +kernel
theorem dL_law_1471 : decode cL_law 1471 = .ok (.aload_n 0, 1) := by decide +kernel
theorem dL_law_1472 : decode cL_law 1472 = .ok (.iload 4, 2) := by decide +kernel
theorem dL_law_1474 : decode cL_law 1474 = .ok (.iconst 1, 1) := by decide +kernel
theorem dL_law_1475 : decode cL_law 1475 = .ok (.iadd, 1) := by decide +kernel
theorem dL_law_1476 : decode cL_law 1476 = .ok (.iaload, 1) := by decide +kernel
theorem dL_law_1477 : decode cL_law 1477 = .ok (.aload_n 0, 1) := by decide +kernel
theorem dL_law_1478 : decode cL_law 1478 = .ok (.iload 4, 2) := by decide +kernel
theorem dL_law_1480 : decode cL_law 1480 = .ok (.iconst 2, 1) := by decide +kernel
theorem dL_law_1481 : decode cL_law 1481 = .ok (.iadd, 1) := by decide +kernel
theorem dL_law_1482 : decode cL_law 1482 = .ok (.iaload, 1) := by decide +kernel
theorem dL_law_1483 : decode cL_law 1483 = .ok (.invokevirtual 223, 3) := by decide +kernel
theorem dL_law_1486 : decode cL_law 1486 = .ok (.if_icmp .eq 135, 3) := by decide +kernel
theorem dL_law_1489 : decode cL_law 1489 = .ok (.iconst 0, 1) := by decide +kernel
theorem dL_law_1490 : decode cL_law 1490 = .ok (.ireturn, 1) := by decide +kernel
theorem dL_law_1491 : decode cL_law 1491 = .ok (.aload_n 1, 1) := by decide +kernel
theorem dL_law_1492 : decode cL_law 1492 = .ok (.aload_n 0, 1) := by decide +kernel
theorem dL_law_1493 : decode cL_law 1493 = .ok (.iload 4, 2) := by decide +kernel
theorem dL_law_1495 : decode cL_law 1495 = .ok (.iconst 1, 1) := by decide +kernel
theorem dL_law_1496 : decode cL_law 1496 = .ok (.iadd, 1) := by decide +kernel
theorem dL_law_1497 : decode cL_law 1497 = .ok (.iaload, 1) := by decide +kernel
theorem dL_law_1498 : decode cL_law 1498 = .ok (.invokevirtual 224, 3) := by decide +kernel
theorem dL_law_1501 : decode cL_law 1501 = .ok (.aload_n 2, 1) := by decide +kernel
theorem dL_law_1502 : decode cL_law 1502 = .ok (.aload_n 0, 1) := by decide +kernel
theorem dL_law_1503 : decode cL_law 1503 = .ok (.iload 4, 2) := by decide +kernel
theorem dL_law_1505 : decode cL_law 1505 = .ok (.iconst 1, 1) := by decide +kernel
theorem dL_law_1506 : decode cL_law 1506 = .ok (.iadd, 1) := by decide +kernel
theorem dL_law_1507 : decode cL_law 1507 = .ok (.iaload, 1) := by decide +kernel
theorem dL_law_1508 : decode cL_law 1508 = .ok (.invokevirtual 227, 3) := by decide +kernel
theorem dL_law_1511 : decode cL_law 1511 = .ok (.if_icmp .eq 110, 3) := by decide +kernel
theorem dL_law_1514 : decode cL_law 1514 = .ok (.iconst 0, 1) := by decide +kernel
theorem dL_law_1515 : decode cL_law 1515 = .ok (.ireturn, 1) := by decide +kernel
theorem dL_law_1516 : decode cL_law 1516 = .ok (.aload_n 1, 1) := by decide +kernel
theorem dL_law_1517 : decode cL_law 1517 = .ok (.aload_n 0, 1) := by decide +kernel
theorem dL_law_1518 : decode cL_law 1518 = .ok (.iload 4, 2) := by decide +kernel
theorem dL_law_1520 : decode cL_law 1520 = .ok (.iconst 1, 1) := by decide +kernel
theorem dL_law_1521 : decode cL_law 1521 = .ok (.iadd, 1) := by decide +kernel
theorem dL_law_1522 : decode cL_law 1522 = .ok (.iaload, 1) := by decide +kernel
theorem dL_law_1523 : decode cL_law 1523 = .ok (.invokevirtual 228, 3) := by decide +kernel
theorem dL_law_1526 : decode cL_law 1526 = .ok (.aload_n 2, 1) := by decide +kernel
theorem dL_law_1527 : decode cL_law 1527 = .ok (.aload_n 0, 1) := by decide +kernel
theorem dL_law_1528 : decode cL_law 1528 = .ok (.iload 4, 2) := by decide +kernel
theorem dL_law_1530 : decode cL_law 1530 = .ok (.iconst 1, 1) := by decide +kernel
theorem dL_law_1531 : decode cL_law 1531 = .ok (.iadd, 1) := by decide +kernel
theorem dL_law_1532 : decode cL_law 1532 = .ok (.iaload, 1) := by decide +kernel
theorem dL_law_1533 : decode cL_law 1533 = .ok (.invokevirtual 231, 3) := by decide +kernel
theorem dL_law_1536 : decode cL_law 1536 = .ok (.if_icmp .eq 85, 3) := by decide +kernel
theorem dL_law_1539 : decode cL_law 1539 = .ok (.iconst 0, 1) := by decide +kernel
theorem dL_law_1540 : decode cL_law 1540 = .ok (.ireturn, 1) := by decide +kernel
theorem dL_law_1541 : decode cL_law 1541 = .ok (.aload_n 1, 1) := by decide +kernel
theorem dL_law_1542 : decode cL_law 1542 = .ok (.aload_n 0, 1) := by decide +kernel
theorem dL_law_1543 : decode cL_law 1543 = .ok (.iload 4, 2) := by decide +kernel
theorem dL_law_1545 : decode cL_law 1545 = .ok (.iconst 1, 1) := by decide +kernel
theorem dL_law_1546 : decode cL_law 1546 = .ok (.iadd, 1) := by decide +kernel
theorem dL_law_1547 : decode cL_law 1547 = .ok (.iaload, 1) := by decide +kernel
theorem dL_law_1548 : decode cL_law 1548 = .ok (.invokevirtual 232, 3) := by decide +kernel
theorem dL_law_1551 : decode cL_law 1551 = .ok (.aload_n 2, 1) := by decide +kernel
theorem dL_law_1552 : decode cL_law 1552 = .ok (.aload_n 0, 1) := by decide +kernel
theorem dL_law_1553 : decode cL_law 1553 = .ok (.iload 4, 2) := by decide +kernel
theorem dL_law_1555 : decode cL_law 1555 = .ok (.iconst 1, 1) := by decide +kernel
theorem dL_law_1556 : decode cL_law 1556 = .ok (.iadd, 1) := by decide +kernel
theorem dL_law_1557 : decode cL_law 1557 = .ok (.iaload, 1) := by decide +kernel
theorem dL_law_1558 : decode cL_law 1558 = .ok (.invokevirtual 235, 3) := by decide +kernel
theorem dL_law_1561 : decode cL_law 1561 = .ok (.if_icmp .eq 60, 3) := by decide +kernel
theorem dL_law_1564 : decode cL_law 1564 = .ok (.iconst 0, 1) := by decide +kernel
theorem dL_law_1565 : decode cL_law 1565 = .ok (.ireturn, 1) := by decide +kernel
theorem dL_law_1566 : decode cL_law 1566 = .ok (.aload_n 1, 1) := by decide +kernel
theorem dL_law_1567 : decode cL_law 1567 = .ok (.aload_n 0, 1) := by decide +kernel
theorem dL_law_1568 : decode cL_law 1568 = .ok (.iload 4, 2) := by decide +kernel
theorem dL_law_1570 : decode cL_law 1570 = .ok (.iconst 1, 1) := by decide +kernel
theorem dL_law_1571 : decode cL_law 1571 = .ok (.iadd, 1) := by decide +kernel
theorem dL_law_1572 : decode cL_law 1572 = .ok (.iaload, 1) := by decide +kernel
theorem dL_law_1573 : decode cL_law 1573 = .ok (.aload_n 3, 1) := by decide +kernel
theorem dL_law_1574 : decode cL_law 1574 = .ok (.invokestatic 236, 3) := by decide +kernel
theorem dL_law_1577 : decode cL_law 1577 = .ok (.istore 5, 2) := by decide +kernel
theorem dL_law_1579 : decode cL_law 1579 = .ok (.aload_n 2, 1) := by decide +kernel
theorem dL_law_1580 : decode cL_law 1580 = .ok (.aload_n 0, 1) := by decide +kernel
theorem dL_law_1581 : decode cL_law 1581 = .ok (.iload 4, 2) := by decide +kernel
theorem dL_law_1583 : decode cL_law 1583 = .ok (.iconst 1, 1) := by decide +kernel
theorem dL_law_1584 : decode cL_law 1584 = .ok (.iadd, 1) := by decide +kernel
theorem dL_law_1585 : decode cL_law 1585 = .ok (.iaload, 1) := by decide +kernel
theorem dL_law_1586 : decode cL_law 1586 = .ok (.invokevirtual 239, 3) := by decide +kernel
theorem dL_law_1589 : decode cL_law 1589 = .ok (.lstore 6, 2) := by decide +kernel
theorem dL_law_1591 : decode cL_law 1591 = .ok (.aload_n 2, 1) := by decide +kernel
theorem dL_law_1592 : decode cL_law 1592 = .ok (.invokevirtual 52, 3) := by decide +kernel
theorem dL_law_1595 : decode cL_law 1595 = .ok (.iload 5, 2) := by decide +kernel
theorem dL_law_1597 : decode cL_law 1597 = .ok (.if_icmp .eq 5, 3) := by decide +kernel
theorem dL_law_1600 : decode cL_law 1600 = .ok (.iconst 0, 1) := by decide +kernel
theorem dL_law_1601 : decode cL_law 1601 = .ok (.ireturn, 1) := by decide +kernel
theorem dL_law_1602 : decode cL_law 1602 = .ok (.iload 5, 2) := by decide +kernel
theorem dL_law_1604 : decode cL_law 1604 = .ok (.ifCond .ne 14, 3) := by decide +kernel
theorem dL_law_1607 : decode cL_law 1607 = .ok (.aload_n 3, 1) := by decide +kernel
theorem dL_law_1608 : decode cL_law 1608 = .ok (.iconst 0, 1) := by decide +kernel
theorem dL_law_1609 : decode cL_law 1609 = .ok (.laload, 1) := by decide +kernel
theorem dL_law_1610 : decode cL_law 1610 = .ok (.lload 6, 2) := by decide +kernel
theorem dL_law_1612 : decode cL_law 1612 = .ok (.lcmp, 1) := by decide +kernel
theorem dL_law_1613 : decode cL_law 1613 = .ok (.ifCond .eq 5, 3) := by decide +kernel
theorem dL_law_1616 : decode cL_law 1616 = .ok (.iconst 0, 1) := by decide +kernel
theorem dL_law_1617 : decode cL_law 1617 = .ok (.ireturn, 1) := by decide +kernel
theorem dL_law_1618 : decode cL_law 1618 = .ok (.goto 3, 3) := by decide +kernel
theorem dL_law_1621 : decode cL_law 1621 = .ok (.iinc 4 5, 3) := by decide +kernel
theorem dL_law_1624 : decode cL_law 1624 = .ok (.goto (-1601), 3) := by decide +kernel
theorem dL_law_1627 : decode cL_law 1627 = .ok (.iconst 1, 1) := by decide +kernel
theorem dL_law_1628 : decode cL_law 1628 = .ok (.ireturn, 1) := by decide +kernel
