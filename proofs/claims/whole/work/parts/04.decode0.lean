theorem dX0_init_0 : decode cX0_init 0 = .ok (.aload_n 0, 1) := by decide +kernel
theorem dX0_init_1 : decode cX0_init 1 = .ok (.invokespecial 1, 3) := by decide +kernel
theorem dX0_init_4 : decode cX0_init 4 = .ok (.aload_n 0, 1) := by decide +kernel
theorem dX0_init_5 : decode cX0_init 5 = .ok (.bipush 21, 2) := by decide +kernel
theorem dX0_init_7 : decode cX0_init 7 = .ok (.newarray .int, 2) := by decide +kernel
theorem dX0_init_9 : decode cX0_init 9 = .ok (.putfield 9, 3) := by decide +kernel
theorem dX0_init_12 : decode cX0_init 12 = .ok (.aload_n 0, 1) := by decide +kernel
theorem dX0_init_13 : decode cX0_init 13 = .ok (.bipush 21, 2) := by decide +kernel
theorem dX0_init_15 : decode cX0_init 15 = .ok (.newarray .int, 2) := by decide +kernel
theorem dX0_init_17 : decode cX0_init 17 = .ok (.putfield 13, 3) := by decide +kernel
theorem dX0_init_20 : decode cX0_init 20 = .ok (.aload_n 0, 1) := by decide +kernel
theorem dX0_init_21 : decode cX0_init 21 = .ok (.aload_n 1, 1) := by decide +kernel
theorem dX0_init_22 : decode cX0_init 22 = .ok (.putfield 16, 3) := by decide +kernel
theorem dX0_init_25 : decode cX0_init 25 = .ok (.return_, 1) := by decide +kernel
theorem dX0_chanceOfStile_0 : decode cX0_chanceOfStile 0 = .ok (.bipush 10, 2) := by decide +kernel
theorem dX0_chanceOfStile_2 : decode cX0_chanceOfStile 2 = .ok (.iload_n 2, 1) := by decide +kernel
theorem dX0_chanceOfStile_3 : decode cX0_chanceOfStile 3 = .ok (.isub, 1) := by decide +kernel
theorem dX0_chanceOfStile_4 : decode cX0_chanceOfStile 4 = .ok (.istore 4, 2) := by decide +kernel
theorem dX0_chanceOfStile_6 : decode cX0_chanceOfStile 6 = .ok (.lconst 0, 1) := by decide +kernel
theorem dX0_chanceOfStile_7 : decode cX0_chanceOfStile 7 = .ok (.lstore 5, 2) := by decide +kernel
theorem dX0_chanceOfStile_9 : decode cX0_chanceOfStile 9 = .ok (.lconst 0, 1) := by decide +kernel
theorem dX0_chanceOfStile_10 : decode cX0_chanceOfStile 10 = .ok (.lstore 7, 2) := by decide +kernel
theorem dX0_chanceOfStile_12 : decode cX0_chanceOfStile 12 = .ok (.iconst 0, 1) := by decide +kernel
theorem dX0_chanceOfStile_13 : decode cX0_chanceOfStile 13 = .ok (.istore 9, 2) := by decide +kernel
theorem dX0_chanceOfStile_15 : decode cX0_chanceOfStile 15 = .ok (.iload 9, 2) := by decide +kernel
theorem dX0_chanceOfStile_17 : decode cX0_chanceOfStile 17 = .ok (.iload_n 3, 1) := by decide +kernel
theorem dX0_chanceOfStile_18 : decode cX0_chanceOfStile 18 = .ok (.if_icmp .ge 53, 3) := by decide +kernel
theorem dX0_chanceOfStile_21 : decode cX0_chanceOfStile 21 = .ok (.iload_n 2, 1) := by decide +kernel
theorem dX0_chanceOfStile_22 : decode cX0_chanceOfStile 22 = .ok (.iload 9, 2) := by decide +kernel
theorem dX0_chanceOfStile_24 : decode cX0_chanceOfStile 24 = .ok (.invokestatic 20, 3) := by decide +kernel
theorem dX0_chanceOfStile_27 : decode cX0_chanceOfStile 27 = .ok (.iload 4, 2) := by decide +kernel
theorem dX0_chanceOfStile_29 : decode cX0_chanceOfStile 29 = .ok (.iload_n 3, 1) := by decide +kernel
theorem dX0_chanceOfStile_30 : decode cX0_chanceOfStile 30 = .ok (.iconst 1, 1) := by decide +kernel
theorem dX0_chanceOfStile_31 : decode cX0_chanceOfStile 31 = .ok (.isub, 1) := by decide +kernel
theorem dX0_chanceOfStile_32 : decode cX0_chanceOfStile 32 = .ok (.iload 9, 2) := by decide +kernel
theorem dX0_chanceOfStile_34 : decode cX0_chanceOfStile 34 = .ok (.isub, 1) := by decide +kernel
theorem dX0_chanceOfStile_35 : decode cX0_chanceOfStile 35 = .ok (.invokestatic 20, 3) := by decide +kernel
theorem dX0_chanceOfStile_38 : decode cX0_chanceOfStile 38 = .ok (.lmul, 1) := by decide +kernel
theorem dX0_chanceOfStile_39 : decode cX0_chanceOfStile 39 = .ok (.lstore 10, 2) := by decide +kernel
theorem dX0_chanceOfStile_41 : decode cX0_chanceOfStile 41 = .ok (.lload 7, 2) := by decide +kernel
theorem dX0_chanceOfStile_43 : decode cX0_chanceOfStile 43 = .ok (.lload 10, 2) := by decide +kernel
theorem dX0_chanceOfStile_45 : decode cX0_chanceOfStile 45 = .ok (.ladd, 1) := by decide +kernel
theorem dX0_chanceOfStile_46 : decode cX0_chanceOfStile 46 = .ok (.lstore 7, 2) := by decide +kernel
theorem dX0_chanceOfStile_48 : decode cX0_chanceOfStile 48 = .ok (.lload 5, 2) := by decide +kernel
theorem dX0_chanceOfStile_50 : decode cX0_chanceOfStile 50 = .ok (.iload 9, 2) := by decide +kernel
theorem dX0_chanceOfStile_52 : decode cX0_chanceOfStile 52 = .ok (.iload_n 1, 1) := by decide +kernel
theorem dX0_chanceOfStile_53 : decode cX0_chanceOfStile 53 = .ok (.if_icmp .lt 8, 3) := by decide +kernel
theorem dX0_chanceOfStile_56 : decode cX0_chanceOfStile 56 = .ok (.lload 10, 2) := by decide +kernel
theorem dX0_chanceOfStile_58 : decode cX0_chanceOfStile 58 = .ok (.goto 4, 3) := by decide +kernel
theorem dX0_chanceOfStile_61 : decode cX0_chanceOfStile 61 = .ok (.lconst 0, 1) := by decide +kernel
theorem dX0_chanceOfStile_62 : decode cX0_chanceOfStile 62 = .ok (.ladd, 1) := by decide +kernel
theorem dX0_chanceOfStile_63 : decode cX0_chanceOfStile 63 = .ok (.lstore 5, 2) := by decide +kernel
theorem dX0_chanceOfStile_65 : decode cX0_chanceOfStile 65 = .ok (.iinc 9 1, 3) := by decide +kernel
theorem dX0_chanceOfStile_68 : decode cX0_chanceOfStile 68 = .ok (.goto (-53), 3) := by decide +kernel
theorem dX0_chanceOfStile_71 : decode cX0_chanceOfStile 71 = .ok (.lload 5, 2) := by decide +kernel
theorem dX0_chanceOfStile_73 : decode cX0_chanceOfStile 73 = .ok (.lload 7, 2) := by decide +kernel
theorem dX0_chanceOfStile_75 : decode cX0_chanceOfStile 75 = .ok (.invokestatic 24, 3) := by decide +kernel
theorem dX0_chanceOfStile_78 : decode cX0_chanceOfStile 78 = .ok (.lstore 9, 2) := by decide +kernel
theorem dX0_chanceOfStile_80 : decode cX0_chanceOfStile 80 = .ok (.lload 9, 2) := by decide +kernel
theorem dX0_chanceOfStile_82 : decode cX0_chanceOfStile 82 = .ok (.lconst 0, 1) := by decide +kernel
theorem dX0_chanceOfStile_83 : decode cX0_chanceOfStile 83 = .ok (.lcmp, 1) := by decide +kernel
theorem dX0_chanceOfStile_84 : decode cX0_chanceOfStile 84 = .ok (.ifCond .le 20, 3) := by decide +kernel
theorem dX0_chanceOfStile_87 : decode cX0_chanceOfStile 87 = .ok (.aload_n 0, 1) := by decide +kernel
theorem dX0_chanceOfStile_88 : decode cX0_chanceOfStile 88 = .ok (.getfield 16, 3) := by decide +kernel
theorem dX0_chanceOfStile_91 : decode cX0_chanceOfStile 91 = .ok (.lload 5, 2) := by decide +kernel
theorem dX0_chanceOfStile_93 : decode cX0_chanceOfStile 93 = .ok (.lload 9, 2) := by decide +kernel
theorem dX0_chanceOfStile_95 : decode cX0_chanceOfStile 95 = .ok (.ldiv, 1) := by decide +kernel
theorem dX0_chanceOfStile_96 : decode cX0_chanceOfStile 96 = .ok (.lload 7, 2) := by decide +kernel
theorem dX0_chanceOfStile_98 : decode cX0_chanceOfStile 98 = .ok (.lload 9, 2) := by decide +kernel
theorem dX0_chanceOfStile_100 : decode cX0_chanceOfStile 100 = .ok (.ldiv, 1) := by decide +kernel
theorem dX0_chanceOfStile_101 : decode cX0_chanceOfStile 101 = .ok (.invokevirtual 28, 3) := by decide +kernel
theorem dX0_chanceOfStile_104 : decode cX0_chanceOfStile 104 = .ok (.iconst 0, 1) := by decide +kernel
theorem dX0_chanceOfStile_105 : decode cX0_chanceOfStile 105 = .ok (.ireturn, 1) := by decide +kernel
theorem dX0_power_0 : decode cX0_power 0 = .ok (.lconst 1, 1) := by decide +kernel
theorem dX0_power_1 : decode cX0_power 1 = .ok (.lstore_n 2, 1) := by decide +kernel
theorem dX0_power_2 : decode cX0_power 2 = .ok (.iconst 0, 1) := by decide +kernel
theorem dX0_power_3 : decode cX0_power 3 = .ok (.istore 4, 2) := by decide +kernel
theorem dX0_power_5 : decode cX0_power 5 = .ok (.iload 4, 2) := by decide +kernel
theorem dX0_power_7 : decode cX0_power 7 = .ok (.iload_n 1, 1) := by decide +kernel
theorem dX0_power_8 : decode cX0_power 8 = .ok (.if_icmp .ge 14, 3) := by decide +kernel
theorem dX0_power_11 : decode cX0_power 11 = .ok (.lload_n 2, 1) := by decide +kernel
theorem dX0_power_12 : decode cX0_power 12 = .ok (.iload_n 0, 1) := by decide +kernel
theorem dX0_power_13 : decode cX0_power 13 = .ok (.i2l, 1) := by decide +kernel
theorem dX0_power_14 : decode cX0_power 14 = .ok (.lmul, 1) := by decide +kernel
theorem dX0_power_15 : decode cX0_power 15 = .ok (.lstore_n 2, 1) := by decide +kernel
theorem dX0_power_16 : decode cX0_power 16 = .ok (.iinc 4 1, 3) := by decide +kernel
theorem dX0_power_19 : decode cX0_power 19 = .ok (.goto (-14), 3) := by decide +kernel
theorem dX0_power_22 : decode cX0_power 22 = .ok (.lload_n 2, 1) := by decide +kernel
theorem dX0_power_23 : decode cX0_power 23 = .ok (.lreturn, 1) := by decide +kernel
theorem dX0_divisorOfBoth_0 : decode cX0_divisorOfBoth 0 = .ok (.lload_n 0, 1) := by decide +kernel
theorem dX0_divisorOfBoth_1 : decode cX0_divisorOfBoth 1 = .ok (.lstore 4, 2) := by decide +kernel
theorem dX0_divisorOfBoth_3 : decode cX0_divisorOfBoth 3 = .ok (.lload_n 2, 1) := by decide +kernel
theorem dX0_divisorOfBoth_4 : decode cX0_divisorOfBoth 4 = .ok (.lstore 6, 2) := by decide +kernel
theorem dX0_divisorOfBoth_6 : decode cX0_divisorOfBoth 6 = .ok (.iconst 0, 1) := by decide +kernel
theorem dX0_divisorOfBoth_7 : decode cX0_divisorOfBoth 7 = .ok (.istore 8, 2) := by decide +kernel
theorem dX0_divisorOfBoth_9 : decode cX0_divisorOfBoth 9 = .ok (.iload 8, 2) := by decide +kernel
theorem dX0_divisorOfBoth_11 : decode cX0_divisorOfBoth 11 = .ok (.sipush 200, 3) := by decide +kernel
theorem dX0_divisorOfBoth_14 : decode cX0_divisorOfBoth 14 = .ok (.if_icmp .ge 31, 3) := by decide +kernel
theorem dX0_divisorOfBoth_17 : decode cX0_divisorOfBoth 17 = .ok (.lload 6, 2) := by decide +kernel
theorem dX0_divisorOfBoth_19 : decode cX0_divisorOfBoth 19 = .ok (.lconst 0, 1) := by decide +kernel
theorem dX0_divisorOfBoth_20 : decode cX0_divisorOfBoth 20 = .ok (.lcmp, 1) := by decide +kernel
theorem dX0_divisorOfBoth_21 : decode cX0_divisorOfBoth 21 = .ok (.ifCond .eq 24, 3) := by decide +kernel
theorem dX0_divisorOfBoth_24 : decode cX0_divisorOfBoth 24 = .ok (.lload 4, 2) := by decide +kernel
theorem dX0_divisorOfBoth_26 : decode cX0_divisorOfBoth 26 = .ok (.lload 6, 2) := by decide +kernel
theorem dX0_divisorOfBoth_28 : decode cX0_divisorOfBoth 28 = .ok (.lrem, 1) := by decide +kernel
theorem dX0_divisorOfBoth_29 : decode cX0_divisorOfBoth 29 = .ok (.lstore 9, 2) := by decide +kernel
theorem dX0_divisorOfBoth_31 : decode cX0_divisorOfBoth 31 = .ok (.lload 6, 2) := by decide +kernel
theorem dX0_divisorOfBoth_33 : decode cX0_divisorOfBoth 33 = .ok (.lstore 4, 2) := by decide +kernel
theorem dX0_divisorOfBoth_35 : decode cX0_divisorOfBoth 35 = .ok (.lload 9, 2) := by decide +kernel
theorem dX0_divisorOfBoth_37 : decode cX0_divisorOfBoth 37 = .ok (.lstore 6, 2) := by decide +kernel
theorem dX0_divisorOfBoth_39 : decode cX0_divisorOfBoth 39 = .ok (.iinc 8 1, 3) := by decide +kernel
theorem dX0_divisorOfBoth_42 : decode cX0_divisorOfBoth 42 = .ok (.goto (-33), 3) := by decide +kernel
theorem dX0_divisorOfBoth_45 : decode cX0_divisorOfBoth 45 = .ok (.lload 4, 2) := by decide +kernel
theorem dX0_divisorOfBoth_47 : decode cX0_divisorOfBoth 47 = .ok (.lreturn, 1) := by decide +kernel
theorem dX0_bestAtBend_0 : decode cX0_bestAtBend 0 = .ok (.aload_n 0, 1) := by decide +kernel
theorem dX0_bestAtBend_1 : decode cX0_bestAtBend 1 = .ok (.iload_n 1, 1) := by decide +kernel
theorem dX0_bestAtBend_2 : decode cX0_bestAtBend 2 = .ok (.iload_n 2, 1) := by decide +kernel
theorem dX0_bestAtBend_3 : decode cX0_bestAtBend 3 = .ok (.invokestatic 34, 3) := by decide +kernel
theorem dX0_bestAtBend_6 : decode cX0_bestAtBend 6 = .ok (.invokevirtual 40, 3) := by decide +kernel
theorem dX0_bestAtBend_9 : decode cX0_bestAtBend 9 = .ok (.aload_n 0, 1) := by decide +kernel
theorem dX0_bestAtBend_10 : decode cX0_bestAtBend 10 = .ok (.getfield 16, 3) := by decide +kernel
theorem dX0_bestAtBend_13 : decode cX0_bestAtBend 13 = .ok (.invokevirtual 44, 3) := by decide +kernel
theorem dX0_bestAtBend_16 : decode cX0_bestAtBend 16 = .ok (.iconst 1, 1) := by decide +kernel
theorem dX0_bestAtBend_17 : decode cX0_bestAtBend 17 = .ok (.istore_n 3, 1) := by decide +kernel
theorem dX0_bestAtBend_18 : decode cX0_bestAtBend 18 = .ok (.iload_n 3, 1) := by decide +kernel
theorem dX0_bestAtBend_19 : decode cX0_bestAtBend 19 = .ok (.iconst 2, 1) := by decide +kernel
theorem dX0_bestAtBend_20 : decode cX0_bestAtBend 20 = .ok (.if_icmp .gt 30, 3) := by decide +kernel
theorem dX0_bestAtBend_23 : decode cX0_bestAtBend 23 = .ok (.aload_n 0, 1) := by decide +kernel
theorem dX0_bestAtBend_24 : decode cX0_bestAtBend 24 = .ok (.iload_n 1, 1) := by decide +kernel
theorem dX0_bestAtBend_25 : decode cX0_bestAtBend 25 = .ok (.iload_n 2, 1) := by decide +kernel
theorem dX0_bestAtBend_26 : decode cX0_bestAtBend 26 = .ok (.iload_n 3, 1) := by decide +kernel
theorem dX0_bestAtBend_27 : decode cX0_bestAtBend 27 = .ok (.invokevirtual 47, 3) := by decide +kernel
theorem dX0_bestAtBend_30 : decode cX0_bestAtBend 30 = .ok (.ifCond .eq 14, 3) := by decide +kernel
theorem dX0_bestAtBend_33 : decode cX0_bestAtBend 33 = .ok (.aload_n 0, 1) := by decide +kernel
theorem dX0_bestAtBend_34 : decode cX0_bestAtBend 34 = .ok (.getfield 16, 3) := by decide +kernel
theorem dX0_bestAtBend_37 : decode cX0_bestAtBend 37 = .ok (.iload_n 3, 1) := by decide +kernel
theorem dX0_bestAtBend_38 : decode cX0_bestAtBend 38 = .ok (.i2l, 1) := by decide +kernel
theorem dX0_bestAtBend_39 : decode cX0_bestAtBend 39 = .ok (.invokevirtual 51, 3) := by decide +kernel
theorem dX0_bestAtBend_42 : decode cX0_bestAtBend 42 = .ok (.iconst 1, 1) := by decide +kernel
theorem dX0_bestAtBend_43 : decode cX0_bestAtBend 43 = .ok (.ireturn, 1) := by decide +kernel
theorem dX0_bestAtBend_44 : decode cX0_bestAtBend 44 = .ok (.iinc 3 1, 3) := by decide +kernel
theorem dX0_bestAtBend_47 : decode cX0_bestAtBend 47 = .ok (.goto (-29), 3) := by decide +kernel
theorem dX0_bestAtBend_50 : decode cX0_bestAtBend 50 = .ok (.iconst 0, 1) := by decide +kernel
theorem dX0_bestAtBend_51 : decode cX0_bestAtBend 51 = .ok (.ireturn, 1) := by decide +kernel
theorem dX0_playBend_0 : decode cX0_playBend 0 = .ok (.iconst 0, 1) := by decide +kernel
theorem dX0_playBend_1 : decode cX0_playBend 1 = .ok (.istore_n 2, 1) := by decide +kernel
theorem dX0_playBend_2 : decode cX0_playBend 2 = .ok (.iload_n 2, 1) := by decide +kernel
theorem dX0_playBend_3 : decode cX0_playBend 3 = .ok (.bipush 20, 2) := by decide +kernel
theorem dX0_playBend_5 : decode cX0_playBend 5 = .ok (.if_icmp .gt 23, 3) := by decide +kernel
theorem dX0_playBend_8 : decode cX0_playBend 8 = .ok (.aload_n 0, 1) := by decide +kernel
theorem dX0_playBend_9 : decode cX0_playBend 9 = .ok (.getfield 9, 3) := by decide +kernel
theorem dX0_playBend_12 : decode cX0_playBend 12 = .ok (.iload_n 2, 1) := by decide +kernel
theorem dX0_playBend_13 : decode cX0_playBend 13 = .ok (.iconst 0, 1) := by decide +kernel
theorem dX0_playBend_14 : decode cX0_playBend 14 = .ok (.iastore, 1) := by decide +kernel
theorem dX0_playBend_15 : decode cX0_playBend 15 = .ok (.aload_n 0, 1) := by decide +kernel
theorem dX0_playBend_16 : decode cX0_playBend 16 = .ok (.getfield 13, 3) := by decide +kernel
theorem dX0_playBend_19 : decode cX0_playBend 19 = .ok (.iload_n 2, 1) := by decide +kernel
theorem dX0_playBend_20 : decode cX0_playBend 20 = .ok (.iconst 0, 1) := by decide +kernel
theorem dX0_playBend_21 : decode cX0_playBend 21 = .ok (.iastore, 1) := by decide +kernel
theorem dX0_playBend_22 : decode cX0_playBend 22 = .ok (.iinc 2 1, 3) := by decide +kernel
theorem dX0_playBend_25 : decode cX0_playBend 25 = .ok (.goto (-23), 3) := by decide +kernel
theorem dX0_playBend_28 : decode cX0_playBend 28 = .ok (.iconst 2, 1) := by decide +kernel
theorem dX0_playBend_29 : decode cX0_playBend 29 = .ok (.istore_n 2, 1) := by decide +kernel
theorem dX0_playBend_30 : decode cX0_playBend 30 = .ok (.iload_n 2, 1) := by decide +kernel
theorem dX0_playBend_31 : decode cX0_playBend 31 = .ok (.iconst 2, 1) := by decide +kernel
theorem dX0_playBend_32 : decode cX0_playBend 32 = .ok (.iload_n 1, 1) := by decide +kernel
theorem dX0_playBend_33 : decode cX0_playBend 33 = .ok (.imul, 1) := by decide +kernel
theorem dX0_playBend_34 : decode cX0_playBend 34 = .ok (.if_icmp .gt 196, 3) := by decide +kernel
theorem dX0_playBend_37 : decode cX0_playBend 37 = .ok (.iconst 1, 1) := by decide +kernel
theorem dX0_playBend_38 : decode cX0_playBend 38 = .ok (.iload_n 2, 1) := by decide +kernel
theorem dX0_playBend_39 : decode cX0_playBend 39 = .ok (.iload_n 1, 1) := by decide +kernel
theorem dX0_playBend_40 : decode cX0_playBend 40 = .ok (.isub, 1) := by decide +kernel
theorem dX0_playBend_41 : decode cX0_playBend 41 = .ok (.invokestatic 34, 3) := by decide +kernel
theorem dX0_playBend_44 : decode cX0_playBend 44 = .ok (.istore_n 3, 1) := by decide +kernel
theorem dX0_playBend_45 : decode cX0_playBend 45 = .ok (.iload_n 1, 1) := by decide +kernel
theorem dX0_playBend_46 : decode cX0_playBend 46 = .ok (.iload_n 2, 1) := by decide +kernel
theorem dX0_playBend_47 : decode cX0_playBend 47 = .ok (.iconst 1, 1) := by decide +kernel
theorem dX0_playBend_48 : decode cX0_playBend 48 = .ok (.isub, 1) := by decide +kernel
theorem dX0_playBend_49 : decode cX0_playBend 49 = .ok (.invokestatic 55, 3) := by decide +kernel
theorem dX0_playBend_52 : decode cX0_playBend 52 = .ok (.istore 4, 2) := by decide +kernel
theorem dX0_playBend_54 : decode cX0_playBend 54 = .ok (.iload_n 3, 1) := by decide +kernel
theorem dX0_playBend_55 : decode cX0_playBend 55 = .ok (.istore 5, 2) := by decide +kernel
theorem dX0_playBend_57 : decode cX0_playBend 57 = .ok (.iload 5, 2) := by decide +kernel
theorem dX0_playBend_59 : decode cX0_playBend 59 = .ok (.iload 4, 2) := by decide +kernel
theorem dX0_playBend_61 : decode cX0_playBend 61 = .ok (.if_icmp .gt 76, 3) := by decide +kernel
theorem dX0_playBend_64 : decode cX0_playBend 64 = .ok (.iload 5, 2) := by decide +kernel
theorem dX0_playBend_66 : decode cX0_playBend 66 = .ok (.bipush 20, 2) := by decide +kernel
theorem dX0_playBend_68 : decode cX0_playBend 68 = .ok (.if_icmp .gt 69, 3) := by decide +kernel
theorem dX0_playBend_71 : decode cX0_playBend 71 = .ok (.iload_n 2, 1) := by decide +kernel
theorem dX0_playBend_72 : decode cX0_playBend 72 = .ok (.iload 5, 2) := by decide +kernel
theorem dX0_playBend_74 : decode cX0_playBend 74 = .ok (.isub, 1) := by decide +kernel
theorem dX0_playBend_75 : decode cX0_playBend 75 = .ok (.istore 6, 2) := by decide +kernel
theorem dX0_playBend_77 : decode cX0_playBend 77 = .ok (.aload_n 0, 1) := by decide +kernel
theorem dX0_playBend_78 : decode cX0_playBend 78 = .ok (.iload 5, 2) := by decide +kernel
theorem dX0_playBend_80 : decode cX0_playBend 80 = .ok (.iload 6, 2) := by decide +kernel
theorem dX0_playBend_82 : decode cX0_playBend 82 = .ok (.iconst 1, 1) := by decide +kernel
theorem dX0_playBend_83 : decode cX0_playBend 83 = .ok (.invokevirtual 47, 3) := by decide +kernel
theorem dX0_playBend_86 : decode cX0_playBend 86 = .ok (.ifCond .ne 15, 3) := by decide +kernel
theorem dX0_playBend_89 : decode cX0_playBend 89 = .ok (.aload_n 0, 1) := by decide +kernel
theorem dX0_playBend_90 : decode cX0_playBend 90 = .ok (.iload 5, 2) := by decide +kernel
theorem dX0_playBend_92 : decode cX0_playBend 92 = .ok (.iload 6, 2) := by decide +kernel
theorem dX0_playBend_94 : decode cX0_playBend 94 = .ok (.iconst 2, 1) := by decide +kernel
theorem dX0_playBend_95 : decode cX0_playBend 95 = .ok (.invokevirtual 47, 3) := by decide +kernel
theorem dX0_playBend_98 : decode cX0_playBend 98 = .ok (.ifCond .eq 7, 3) := by decide +kernel
theorem dX0_playBend_101 : decode cX0_playBend 101 = .ok (.iconst 1, 1) := by decide +kernel
theorem dX0_playBend_102 : decode cX0_playBend 102 = .ok (.goto 4, 3) := by decide +kernel
theorem dX0_playBend_105 : decode cX0_playBend 105 = .ok (.iconst 0, 1) := by decide +kernel
theorem dX0_playBend_106 : decode cX0_playBend 106 = .ok (.istore 7, 2) := by decide +kernel
theorem dX0_playBend_108 : decode cX0_playBend 108 = .ok (.aload_n 0, 1) := by decide +kernel
theorem dX0_playBend_109 : decode cX0_playBend 109 = .ok (.getfield 9, 3) := by decide +kernel
theorem dX0_playBend_112 : decode cX0_playBend 112 = .ok (.iload 5, 2) := by decide +kernel
theorem dX0_playBend_114 : decode cX0_playBend 114 = .ok (.dup2, 1) := by decide +kernel
theorem dX0_playBend_115 : decode cX0_playBend 115 = .ok (.iaload, 1) := by decide +kernel
theorem dX0_playBend_116 : decode cX0_playBend 116 = .ok (.iload 7, 2) := by decide +kernel
theorem dX0_playBend_118 : decode cX0_playBend 118 = .ok (.ifCond .eq 10, 3) := by decide +kernel
theorem dX0_playBend_121 : decode cX0_playBend 121 = .ok (.iconst 1, 1) := by decide +kernel
theorem dX0_playBend_122 : decode cX0_playBend 122 = .ok (.iload 6, 2) := by decide +kernel
theorem dX0_playBend_124 : decode cX0_playBend 124 = .ok (.ishl, 1) := by decide +kernel
theorem dX0_playBend_125 : decode cX0_playBend 125 = .ok (.goto 4, 3) := by decide +kernel
theorem dX0_playBend_128 : decode cX0_playBend 128 = .ok (.iconst 0, 1) := by decide +kernel
theorem dX0_playBend_129 : decode cX0_playBend 129 = .ok (.ior, 1) := by decide +kernel
theorem dX0_playBend_130 : decode cX0_playBend 130 = .ok (.iastore, 1) := by decide +kernel
theorem dX0_playBend_131 : decode cX0_playBend 131 = .ok (.iinc 5 1, 3) := by decide +kernel
theorem dX0_playBend_134 : decode cX0_playBend 134 = .ok (.goto (-77), 3) := by decide +kernel
theorem dX0_playBend_137 : decode cX0_playBend 137 = .ok (.iload_n 3, 1) := by decide +kernel
theorem dX0_playBend_138 : decode cX0_playBend 138 = .ok (.istore 5, 2) := by decide +kernel
theorem dX0_playBend_140 : decode cX0_playBend 140 = .ok (.iload 5, 2) := by decide +kernel
theorem dX0_playBend_142 : decode cX0_playBend 142 = .ok (.iload 4, 2) := by decide +kernel
theorem dX0_playBend_144 : decode cX0_playBend 144 = .ok (.if_icmp .gt 80, 3) := by decide +kernel
theorem dX0_playBend_147 : decode cX0_playBend 147 = .ok (.iload 5, 2) := by decide +kernel
theorem dX0_playBend_149 : decode cX0_playBend 149 = .ok (.bipush 20, 2) := by decide +kernel
theorem dX0_playBend_151 : decode cX0_playBend 151 = .ok (.if_icmp .gt 73, 3) := by decide +kernel
theorem dX0_playBend_154 : decode cX0_playBend 154 = .ok (.iload_n 2, 1) := by decide +kernel
theorem dX0_playBend_155 : decode cX0_playBend 155 = .ok (.iload 5, 2) := by decide +kernel
theorem dX0_playBend_157 : decode cX0_playBend 157 = .ok (.isub, 1) := by decide +kernel
theorem dX0_playBend_158 : decode cX0_playBend 158 = .ok (.istore 6, 2) := by decide +kernel
theorem dX0_playBend_160 : decode cX0_playBend 160 = .ok (.aload_n 0, 1) := by decide +kernel
theorem dX0_playBend_161 : decode cX0_playBend 161 = .ok (.getfield 9, 3) := by decide +kernel
theorem dX0_playBend_164 : decode cX0_playBend 164 = .ok (.iload 5, 2) := by decide +kernel
theorem dX0_playBend_166 : decode cX0_playBend 166 = .ok (.iload 6, 2) := by decide +kernel
theorem dX0_playBend_168 : decode cX0_playBend 168 = .ok (.invokestatic 58, 3) := by decide +kernel
theorem dX0_playBend_171 : decode cX0_playBend 171 = .ok (.ifCond .ne 17, 3) := by decide +kernel
theorem dX0_playBend_174 : decode cX0_playBend 174 = .ok (.aload_n 0, 1) := by decide +kernel
theorem dX0_playBend_175 : decode cX0_playBend 175 = .ok (.getfield 9, 3) := by decide +kernel
theorem dX0_playBend_178 : decode cX0_playBend 178 = .ok (.iload 6, 2) := by decide +kernel
theorem dX0_playBend_180 : decode cX0_playBend 180 = .ok (.iload 5, 2) := by decide +kernel
theorem dX0_playBend_182 : decode cX0_playBend 182 = .ok (.invokestatic 58, 3) := by decide +kernel
theorem dX0_playBend_185 : decode cX0_playBend 185 = .ok (.ifCond .ne 7, 3) := by decide +kernel
theorem dX0_playBend_188 : decode cX0_playBend 188 = .ok (.iconst 1, 1) := by decide +kernel
theorem dX0_playBend_189 : decode cX0_playBend 189 = .ok (.goto 4, 3) := by decide +kernel
theorem dX0_playBend_192 : decode cX0_playBend 192 = .ok (.iconst 0, 1) := by decide +kernel
theorem dX0_playBend_193 : decode cX0_playBend 193 = .ok (.istore 7, 2) := by decide +kernel
theorem dX0_playBend_195 : decode cX0_playBend 195 = .ok (.aload_n 0, 1) := by decide +kernel
theorem dX0_playBend_196 : decode cX0_playBend 196 = .ok (.getfield 13, 3) := by decide +kernel
theorem dX0_playBend_199 : decode cX0_playBend 199 = .ok (.iload 5, 2) := by decide +kernel
theorem dX0_playBend_201 : decode cX0_playBend 201 = .ok (.dup2, 1) := by decide +kernel
theorem dX0_playBend_202 : decode cX0_playBend 202 = .ok (.iaload, 1) := by decide +kernel
theorem dX0_playBend_203 : decode cX0_playBend 203 = .ok (.iload 7, 2) := by decide +kernel
theorem dX0_playBend_205 : decode cX0_playBend 205 = .ok (.ifCond .eq 10, 3) := by decide +kernel
theorem dX0_playBend_208 : decode cX0_playBend 208 = .ok (.iconst 1, 1) := by decide +kernel
theorem dX0_playBend_209 : decode cX0_playBend 209 = .ok (.iload 6, 2) := by decide +kernel
theorem dX0_playBend_211 : decode cX0_playBend 211 = .ok (.ishl, 1) := by decide +kernel
theorem dX0_playBend_212 : decode cX0_playBend 212 = .ok (.goto 4, 3) := by decide +kernel
theorem dX0_playBend_215 : decode cX0_playBend 215 = .ok (.iconst 0, 1) := by decide +kernel
theorem dX0_playBend_216 : decode cX0_playBend 216 = .ok (.ior, 1) := by decide +kernel
theorem dX0_playBend_217 : decode cX0_playBend 217 = .ok (.iastore, 1) := by decide +kernel
theorem dX0_playBend_218 : decode cX0_playBend 218 = .ok (.iinc 5 1, 3) := by decide +kernel
theorem dX0_playBend_221 : decode cX0_playBend 221 = .ok (.goto (-81), 3) := by decide +kernel
theorem dX0_playBend_224 : decode cX0_playBend 224 = .ok (.iinc 2 1, 3) := by decide +kernel
theorem dX0_playBend_227 : decode cX0_playBend 227 = .ok (.goto (-197), 3) := by decide +kernel
theorem dX0_playBend_230 : decode cX0_playBend 230 = .ok (.return_, 1) := by decide +kernel
theorem dX0_winsByGoing_0 : decode cX0_winsByGoing 0 = .ok (.iload_n 1, 1) := by decide +kernel
theorem dX0_winsByGoing_1 : decode cX0_winsByGoing 1 = .ok (.iload_n 3, 1) := by decide +kernel
theorem dX0_winsByGoing_2 : decode cX0_winsByGoing 2 = .ok (.isub, 1) := by decide +kernel
theorem dX0_winsByGoing_3 : decode cX0_winsByGoing 3 = .ok (.ifCond .le 33, 3) := by decide +kernel
theorem dX0_winsByGoing_6 : decode cX0_winsByGoing 6 = .ok (.iload_n 3, 1) := by decide +kernel
theorem dX0_winsByGoing_7 : decode cX0_winsByGoing 7 = .ok (.iconst 2, 1) := by decide +kernel
theorem dX0_winsByGoing_8 : decode cX0_winsByGoing 8 = .ok (.if_icmp .ne 10, 3) := by decide +kernel
theorem dX0_winsByGoing_11 : decode cX0_winsByGoing 11 = .ok (.aload_n 0, 1) := by decide +kernel
theorem dX0_winsByGoing_12 : decode cX0_winsByGoing 12 = .ok (.getfield 13, 3) := by decide +kernel
theorem dX0_winsByGoing_15 : decode cX0_winsByGoing 15 = .ok (.goto 7, 3) := by decide +kernel
theorem dX0_winsByGoing_18 : decode cX0_winsByGoing 18 = .ok (.aload_n 0, 1) := by decide +kernel
theorem dX0_winsByGoing_19 : decode cX0_winsByGoing 19 = .ok (.getfield 9, 3) := by decide +kernel
theorem dX0_winsByGoing_22 : decode cX0_winsByGoing 22 = .ok (.iload_n 2, 1) := by decide +kernel
theorem dX0_winsByGoing_23 : decode cX0_winsByGoing 23 = .ok (.iload_n 1, 1) := by decide +kernel
theorem dX0_winsByGoing_24 : decode cX0_winsByGoing 24 = .ok (.iload_n 3, 1) := by decide +kernel
theorem dX0_winsByGoing_25 : decode cX0_winsByGoing 25 = .ok (.isub, 1) := by decide +kernel
theorem dX0_winsByGoing_26 : decode cX0_winsByGoing 26 = .ok (.invokestatic 58, 3) := by decide +kernel
theorem dX0_winsByGoing_29 : decode cX0_winsByGoing 29 = .ok (.ifCond .ne 7, 3) := by decide +kernel
theorem dX0_winsByGoing_32 : decode cX0_winsByGoing 32 = .ok (.iconst 1, 1) := by decide +kernel
theorem dX0_winsByGoing_33 : decode cX0_winsByGoing 33 = .ok (.goto 4, 3) := by decide +kernel
theorem dX0_winsByGoing_36 : decode cX0_winsByGoing 36 = .ok (.iconst 0, 1) := by decide +kernel
theorem dX0_winsByGoing_37 : decode cX0_winsByGoing 37 = .ok (.ireturn, 1) := by decide +kernel
theorem dX0_isWin_0 : decode cX0_isWin 0 = .ok (.iload_n 1, 1) := by decide +kernel
theorem dX0_isWin_1 : decode cX0_isWin 1 = .ok (.ifCond .lt 24, 3) := by decide +kernel
theorem dX0_isWin_4 : decode cX0_isWin 4 = .ok (.iload_n 1, 1) := by decide +kernel
theorem dX0_isWin_5 : decode cX0_isWin 5 = .ok (.aload_n 0, 1) := by decide +kernel
theorem dX0_isWin_6 : decode cX0_isWin 6 = .ok (.arraylength, 1) := by decide +kernel
theorem dX0_isWin_7 : decode cX0_isWin 7 = .ok (.if_icmp .ge 18, 3) := by decide +kernel
theorem dX0_isWin_10 : decode cX0_isWin 10 = .ok (.aload_n 0, 1) := by decide +kernel
theorem dX0_isWin_11 : decode cX0_isWin 11 = .ok (.iload_n 1, 1) := by decide +kernel
theorem dX0_isWin_12 : decode cX0_isWin 12 = .ok (.iaload, 1) := by decide +kernel
theorem dX0_isWin_13 : decode cX0_isWin 13 = .ok (.iload_n 2, 1) := by decide +kernel
theorem dX0_isWin_14 : decode cX0_isWin 14 = .ok (.ishr, 1) := by decide +kernel
theorem dX0_isWin_15 : decode cX0_isWin 15 = .ok (.iconst 1, 1) := by decide +kernel
theorem dX0_isWin_16 : decode cX0_isWin 16 = .ok (.iand, 1) := by decide +kernel
theorem dX0_isWin_17 : decode cX0_isWin 17 = .ok (.iconst 1, 1) := by decide +kernel
theorem dX0_isWin_18 : decode cX0_isWin 18 = .ok (.if_icmp .ne 7, 3) := by decide +kernel
theorem dX0_isWin_21 : decode cX0_isWin 21 = .ok (.iconst 1, 1) := by decide +kernel
theorem dX0_isWin_22 : decode cX0_isWin 22 = .ok (.goto 4, 3) := by decide +kernel
theorem dX0_isWin_25 : decode cX0_isWin 25 = .ok (.iconst 0, 1) := by decide +kernel
theorem dX0_isWin_26 : decode cX0_isWin 26 = .ok (.ireturn, 1) := by decide +kernel
theorem dX0_restingPairs_0 : decode cX0_restingPairs 0 = .ok (.iconst 0, 1) := by decide +kernel
theorem dX0_restingPairs_1 : decode cX0_restingPairs 1 = .ok (.istore_n 2, 1) := by decide +kernel
theorem dX0_restingPairs_2 : decode cX0_restingPairs 2 = .ok (.aload_n 0, 1) := by decide +kernel
theorem dX0_restingPairs_3 : decode cX0_restingPairs 3 = .ok (.getfield 16, 3) := by decide +kernel
theorem dX0_restingPairs_6 : decode cX0_restingPairs 6 = .ok (.invokevirtual 44, 3) := by decide +kernel
theorem dX0_restingPairs_9 : decode cX0_restingPairs 9 = .ok (.iconst 0, 1) := by decide +kernel
theorem dX0_restingPairs_10 : decode cX0_restingPairs 10 = .ok (.istore_n 3, 1) := by decide +kernel
theorem dX0_restingPairs_11 : decode cX0_restingPairs 11 = .ok (.iload_n 3, 1) := by decide +kernel
theorem dX0_restingPairs_12 : decode cX0_restingPairs 12 = .ok (.bipush 9, 2) := by decide +kernel
theorem dX0_restingPairs_14 : decode cX0_restingPairs 14 = .ok (.if_icmp .gt 67, 3) := by decide +kernel
theorem dX0_restingPairs_17 : decode cX0_restingPairs 17 = .ok (.iconst 0, 1) := by decide +kernel
theorem dX0_restingPairs_18 : decode cX0_restingPairs 18 = .ok (.istore 4, 2) := by decide +kernel
theorem dX0_restingPairs_20 : decode cX0_restingPairs 20 = .ok (.iload 4, 2) := by decide +kernel
theorem dX0_restingPairs_22 : decode cX0_restingPairs 22 = .ok (.bipush 9, 2) := by decide +kernel
theorem dX0_restingPairs_24 : decode cX0_restingPairs 24 = .ok (.if_icmp .gt 51, 3) := by decide +kernel
theorem dX0_restingPairs_27 : decode cX0_restingPairs 27 = .ok (.iload_n 3, 1) := by decide +kernel
theorem dX0_restingPairs_28 : decode cX0_restingPairs 28 = .ok (.iload 4, 2) := by decide +kernel
theorem dX0_restingPairs_30 : decode cX0_restingPairs 30 = .ok (.iload_n 1, 1) := by decide +kernel
theorem dX0_restingPairs_31 : decode cX0_restingPairs 31 = .ok (.invokestatic 62, 3) := by decide +kernel
theorem dX0_restingPairs_34 : decode cX0_restingPairs 34 = .ok (.ifCond .eq 35, 3) := by decide +kernel
theorem dX0_restingPairs_37 : decode cX0_restingPairs 37 = .ok (.iload 4, 2) := by decide +kernel
theorem dX0_restingPairs_39 : decode cX0_restingPairs 39 = .ok (.iload_n 3, 1) := by decide +kernel
theorem dX0_restingPairs_40 : decode cX0_restingPairs 40 = .ok (.iload_n 1, 1) := by decide +kernel
theorem dX0_restingPairs_41 : decode cX0_restingPairs 41 = .ok (.invokestatic 62, 3) := by decide +kernel
theorem dX0_restingPairs_44 : decode cX0_restingPairs 44 = .ok (.ifCond .ne 6, 3) := by decide +kernel
theorem dX0_restingPairs_47 : decode cX0_restingPairs 47 = .ok (.goto 22, 3) := by decide +kernel
theorem dX0_restingPairs_50 : decode cX0_restingPairs 50 = .ok (.iload_n 2, 1) := by decide +kernel
theorem dX0_restingPairs_51 : decode cX0_restingPairs 51 = .ok (.ifCond .ne 15, 3) := by decide +kernel
theorem dX0_restingPairs_54 : decode cX0_restingPairs 54 = .ok (.aload_n 0, 1) := by decide +kernel
theorem dX0_restingPairs_55 : decode cX0_restingPairs 55 = .ok (.getfield 16, 3) := by decide +kernel
theorem dX0_restingPairs_58 : decode cX0_restingPairs 58 = .ok (.iload_n 3, 1) := by decide +kernel
theorem dX0_restingPairs_59 : decode cX0_restingPairs 59 = .ok (.i2l, 1) := by decide +kernel
theorem dX0_restingPairs_60 : decode cX0_restingPairs 60 = .ok (.iload 4, 2) := by decide +kernel
theorem dX0_restingPairs_62 : decode cX0_restingPairs 62 = .ok (.i2l, 1) := by decide +kernel
theorem dX0_restingPairs_63 : decode cX0_restingPairs 63 = .ok (.invokevirtual 28, 3) := by decide +kernel
theorem dX0_restingPairs_66 : decode cX0_restingPairs 66 = .ok (.iinc 2 1, 3) := by decide +kernel
theorem dX0_restingPairs_69 : decode cX0_restingPairs 69 = .ok (.iinc 4 1, 3) := by decide +kernel
theorem dX0_restingPairs_72 : decode cX0_restingPairs 72 = .ok (.goto (-52), 3) := by decide +kernel
theorem dX0_restingPairs_75 : decode cX0_restingPairs 75 = .ok (.iinc 3 1, 3) := by decide +kernel
theorem dX0_restingPairs_78 : decode cX0_restingPairs 78 = .ok (.goto (-67), 3) := by decide +kernel
theorem dX0_restingPairs_81 : decode cX0_restingPairs 81 = .ok (.iload_n 2, 1) := by decide +kernel
theorem dX0_restingPairs_82 : decode cX0_restingPairs 82 = .ok (.ireturn, 1) := by decide +kernel
theorem dX0_bestAgainst_0 : decode cX0_bestAgainst 0 = .ok (.iload_n 0, 1) := by decide +kernel
theorem dX0_bestAgainst_1 : decode cX0_bestAgainst 1 = .ok (.iload_n 1, 1) := by decide +kernel
theorem dX0_bestAgainst_2 : decode cX0_bestAgainst 2 = .ok (.iload_n 2, 1) := by decide +kernel
theorem dX0_bestAgainst_3 : decode cX0_bestAgainst 3 = .ok (.invokestatic 65, 3) := by decide +kernel
theorem dX0_bestAgainst_6 : decode cX0_bestAgainst 6 = .ok (.istore_n 3, 1) := by decide +kernel
theorem dX0_bestAgainst_7 : decode cX0_bestAgainst 7 = .ok (.iconst 0, 1) := by decide +kernel
theorem dX0_bestAgainst_8 : decode cX0_bestAgainst 8 = .ok (.istore 4, 2) := by decide +kernel
theorem dX0_bestAgainst_10 : decode cX0_bestAgainst 10 = .ok (.iload 4, 2) := by decide +kernel
theorem dX0_bestAgainst_12 : decode cX0_bestAgainst 12 = .ok (.bipush 9, 2) := by decide +kernel
theorem dX0_bestAgainst_14 : decode cX0_bestAgainst 14 = .ok (.if_icmp .gt 22, 3) := by decide +kernel
theorem dX0_bestAgainst_17 : decode cX0_bestAgainst 17 = .ok (.iload 4, 2) := by decide +kernel
theorem dX0_bestAgainst_19 : decode cX0_bestAgainst 19 = .ok (.iload_n 1, 1) := by decide +kernel
theorem dX0_bestAgainst_20 : decode cX0_bestAgainst 20 = .ok (.iload_n 2, 1) := by decide +kernel
theorem dX0_bestAgainst_21 : decode cX0_bestAgainst 21 = .ok (.invokestatic 65, 3) := by decide +kernel
theorem dX0_bestAgainst_24 : decode cX0_bestAgainst 24 = .ok (.iload_n 3, 1) := by decide +kernel
theorem dX0_bestAgainst_25 : decode cX0_bestAgainst 25 = .ok (.if_icmp .le 5, 3) := by decide +kernel
theorem dX0_bestAgainst_28 : decode cX0_bestAgainst 28 = .ok (.iconst 0, 1) := by decide +kernel
theorem dX0_bestAgainst_29 : decode cX0_bestAgainst 29 = .ok (.ireturn, 1) := by decide +kernel
theorem dX0_bestAgainst_30 : decode cX0_bestAgainst 30 = .ok (.iinc 4 1, 3) := by decide +kernel
theorem dX0_bestAgainst_33 : decode cX0_bestAgainst 33 = .ok (.goto (-23), 3) := by decide +kernel
theorem dX0_bestAgainst_36 : decode cX0_bestAgainst 36 = .ok (.iconst 1, 1) := by decide +kernel
theorem dX0_bestAgainst_37 : decode cX0_bestAgainst 37 = .ok (.ireturn, 1) := by decide +kernel
theorem dX0_worth_0 : decode cX0_worth 0 = .ok (.iload_n 0, 1) := by decide +kernel
theorem dX0_worth_1 : decode cX0_worth 1 = .ok (.iconst 0, 1) := by decide +kernel
theorem dX0_worth_2 : decode cX0_worth 2 = .ok (.iload_n 0, 1) := by decide +kernel
theorem dX0_worth_3 : decode cX0_worth 3 = .ok (.iconst 4, 1) := by decide +kernel
theorem dX0_worth_4 : decode cX0_worth 4 = .ok (.isub, 1) := by decide +kernel
theorem dX0_worth_5 : decode cX0_worth 5 = .ok (.invokestatic 34, 3) := by decide +kernel
theorem dX0_worth_8 : decode cX0_worth 8 = .ok (.iadd, 1) := by decide +kernel
theorem dX0_worth_9 : decode cX0_worth 9 = .ok (.istore_n 3, 1) := by decide +kernel
theorem dX0_worth_10 : decode cX0_worth 10 = .ok (.iload_n 0, 1) := by decide +kernel
theorem dX0_worth_11 : decode cX0_worth 11 = .ok (.iload_n 1, 1) := by decide +kernel
theorem dX0_worth_12 : decode cX0_worth 12 = .ok (.iadd, 1) := by decide +kernel
theorem dX0_worth_13 : decode cX0_worth 13 = .ok (.iconst 2, 1) := by decide +kernel
theorem dX0_worth_14 : decode cX0_worth 14 = .ok (.idiv, 1) := by decide +kernel
theorem dX0_worth_15 : decode cX0_worth 15 = .ok (.iload_n 0, 1) := by decide +kernel
theorem dX0_worth_16 : decode cX0_worth 16 = .ok (.iload_n 1, 1) := by decide +kernel
theorem dX0_worth_17 : decode cX0_worth 17 = .ok (.if_icmp .le 7, 3) := by decide +kernel
theorem dX0_worth_20 : decode cX0_worth 20 = .ok (.iload_n 2, 1) := by decide +kernel
theorem dX0_worth_21 : decode cX0_worth 21 = .ok (.goto 4, 3) := by decide +kernel
theorem dX0_worth_24 : decode cX0_worth 24 = .ok (.iconst 0, 1) := by decide +kernel
theorem dX0_worth_25 : decode cX0_worth 25 = .ok (.iadd, 1) := by decide +kernel
theorem dX0_worth_26 : decode cX0_worth 26 = .ok (.iload_n 3, 1) := by decide +kernel
theorem dX0_worth_27 : decode cX0_worth 27 = .ok (.isub, 1) := by decide +kernel
theorem dX0_worth_28 : decode cX0_worth 28 = .ok (.ireturn, 1) := by decide +kernel
theorem dX1_init_0 : decode cX1_init 0 = .ok (.aload_n 0, 1) := by decide +kernel
theorem dX1_init_1 : decode cX1_init 1 = .ok (.invokespecial 3, 3) := by decide +kernel
theorem dX1_init_4 : decode cX1_init 4 = .ok (.aload_n 0, 1) := by decide +kernel
theorem dX1_init_5 : decode cX1_init 5 = .ok (.bipush 7, 2) := by decide +kernel
theorem dX1_init_7 : decode cX1_init 7 = .ok (.newarray .int, 2) := by decide +kernel
theorem dX1_init_9 : decode cX1_init 9 = .ok (.putfield 9, 3) := by decide +kernel
theorem dX1_init_12 : decode cX1_init 12 = .ok (.aload_n 0, 1) := by decide +kernel
theorem dX1_init_13 : decode cX1_init 13 = .ok (.bipush 7, 2) := by decide +kernel
theorem dX1_init_15 : decode cX1_init 15 = .ok (.newarray .int, 2) := by decide +kernel
theorem dX1_init_17 : decode cX1_init 17 = .ok (.putfield 15, 3) := by decide +kernel
theorem dX1_init_20 : decode cX1_init 20 = .ok (.aload_n 0, 1) := by decide +kernel
theorem dX1_init_21 : decode cX1_init 21 = .ok (.bipush 7, 2) := by decide +kernel
theorem dX1_init_23 : decode cX1_init 23 = .ok (.newarray .int, 2) := by decide +kernel
theorem dX1_init_25 : decode cX1_init 25 = .ok (.putfield 18, 3) := by decide +kernel
theorem dX1_init_28 : decode cX1_init 28 = .ok (.aload_n 0, 1) := by decide +kernel
theorem dX1_init_29 : decode cX1_init 29 = .ok (.bipush 7, 2) := by decide +kernel
theorem dX1_init_31 : decode cX1_init 31 = .ok (.newarray .int, 2) := by decide +kernel
theorem dX1_init_33 : decode cX1_init 33 = .ok (.putfield 21, 3) := by decide +kernel
theorem dX1_init_36 : decode cX1_init 36 = .ok (.aload_n 0, 1) := by decide +kernel
theorem dX1_init_37 : decode cX1_init 37 = .ok (.bipush 7, 2) := by decide +kernel
theorem dX1_init_39 : decode cX1_init 39 = .ok (.newarray .int, 2) := by decide +kernel
theorem dX1_init_41 : decode cX1_init 41 = .ok (.putfield 24, 3) := by decide +kernel
theorem dX1_init_44 : decode cX1_init 44 = .ok (.aload_n 0, 1) := by decide +kernel
theorem dX1_init_45 : decode cX1_init 45 = .ok (.bipush 7, 2) := by decide +kernel
theorem dX1_init_47 : decode cX1_init 47 = .ok (.newarray .int, 2) := by decide +kernel
theorem dX1_init_49 : decode cX1_init 49 = .ok (.putfield 27, 3) := by decide +kernel
theorem dX1_init_52 : decode cX1_init 52 = .ok (.aload_n 0, 1) := by decide +kernel
theorem dX1_init_53 : decode cX1_init 53 = .ok (.bipush 7, 2) := by decide +kernel
theorem dX1_init_55 : decode cX1_init 55 = .ok (.newarray .int, 2) := by decide +kernel
theorem dX1_init_57 : decode cX1_init 57 = .ok (.putfield 30, 3) := by decide +kernel
theorem dX1_init_60 : decode cX1_init 60 = .ok (.aload_n 0, 1) := by decide +kernel
theorem dX1_init_61 : decode cX1_init 61 = .ok (.iconst 0, 1) := by decide +kernel
theorem dX1_init_62 : decode cX1_init 62 = .ok (.putfield 33, 3) := by decide +kernel
theorem dX1_init_65 : decode cX1_init 65 = .ok (.aload_n 0, 1) := by decide +kernel
theorem dX1_init_66 : decode cX1_init 66 = .ok (.iconst 5, 1) := by decide +kernel
theorem dX1_init_67 : decode cX1_init 67 = .ok (.putfield 37, 3) := by decide +kernel
theorem dX1_init_70 : decode cX1_init 70 = .ok (.aload_n 0, 1) := by decide +kernel
theorem dX1_init_71 : decode cX1_init 71 = .ok (.bipush 7, 2) := by decide +kernel
theorem dX1_init_73 : decode cX1_init 73 = .ok (.putfield 40, 3) := by decide +kernel
theorem dX1_init_76 : decode cX1_init 76 = .ok (.aload_n 0, 1) := by decide +kernel
theorem dX1_init_77 : decode cX1_init 77 = .ok (.iconst 0, 1) := by decide +kernel
theorem dX1_init_78 : decode cX1_init 78 = .ok (.putfield 43, 3) := by decide +kernel
theorem dX1_init_81 : decode cX1_init 81 = .ok (.aload_n 0, 1) := by decide +kernel
theorem dX1_init_82 : decode cX1_init 82 = .ok (.iconst 0, 1) := by decide +kernel
theorem dX1_init_83 : decode cX1_init 83 = .ok (.putfield 46, 3) := by decide +kernel
theorem dX1_init_86 : decode cX1_init 86 = .ok (.aload_n 0, 1) := by decide +kernel
theorem dX1_init_87 : decode cX1_init 87 = .ok (.iconst 0, 1) := by decide +kernel
theorem dX1_init_88 : decode cX1_init 88 = .ok (.putfield 49, 3) := by decide +kernel
theorem dX1_init_91 : decode cX1_init 91 = .ok (.return_, 1) := by decide +kernel
theorem dX1_has_0 : decode cX1_has 0 = .ok (.iload_n 1, 1) := by decide +kernel
theorem dX1_has_1 : decode cX1_has 1 = .ok (.ifCond .lt 21, 3) := by decide +kernel
theorem dX1_has_4 : decode cX1_has 4 = .ok (.iload_n 1, 1) := by decide +kernel
theorem dX1_has_5 : decode cX1_has 5 = .ok (.aload_n 0, 1) := by decide +kernel
theorem dX1_has_6 : decode cX1_has 6 = .ok (.getfield 33, 3) := by decide +kernel
theorem dX1_has_9 : decode cX1_has 9 = .ok (.if_icmp .ge 13, 3) := by decide +kernel
theorem dX1_has_12 : decode cX1_has 12 = .ok (.iload_n 1, 1) := by decide +kernel
theorem dX1_has_13 : decode cX1_has 13 = .ok (.bipush 7, 2) := by decide +kernel
theorem dX1_has_15 : decode cX1_has 15 = .ok (.if_icmp .ge 7, 3) := by decide +kernel
theorem dX1_has_18 : decode cX1_has 18 = .ok (.iconst 1, 1) := by decide +kernel
theorem dX1_has_19 : decode cX1_has 19 = .ok (.goto 4, 3) := by decide +kernel
theorem dX1_has_22 : decode cX1_has 22 = .ok (.iconst 0, 1) := by decide +kernel
theorem dX1_has_23 : decode cX1_has 23 = .ok (.ireturn, 1) := by decide +kernel
theorem dX1_addClimber_0 : decode cX1_addClimber 0 = .ok (.aload_n 0, 1) := by decide +kernel
theorem dX1_addClimber_1 : decode cX1_addClimber 1 = .ok (.getfield 33, 3) := by decide +kernel
theorem dX1_addClimber_4 : decode cX1_addClimber 4 = .ok (.ifCond .lt 12, 3) := by decide +kernel
theorem dX1_addClimber_7 : decode cX1_addClimber 7 = .ok (.aload_n 0, 1) := by decide +kernel
theorem dX1_addClimber_8 : decode cX1_addClimber 8 = .ok (.getfield 33, 3) := by decide +kernel
theorem dX1_addClimber_11 : decode cX1_addClimber 11 = .ok (.bipush 7, 2) := by decide +kernel
theorem dX1_addClimber_13 : decode cX1_addClimber 13 = .ok (.if_icmp .lt 4, 3) := by decide +kernel
theorem dX1_addClimber_16 : decode cX1_addClimber 16 = .ok (.return_, 1) := by decide +kernel
theorem dX1_addClimber_17 : decode cX1_addClimber 17 = .ok (.aload_n 0, 1) := by decide +kernel
theorem dX1_addClimber_18 : decode cX1_addClimber 18 = .ok (.getfield 9, 3) := by decide +kernel
theorem dX1_addClimber_21 : decode cX1_addClimber 21 = .ok (.aload_n 0, 1) := by decide +kernel
theorem dX1_addClimber_22 : decode cX1_addClimber 22 = .ok (.getfield 33, 3) := by decide +kernel
theorem dX1_addClimber_25 : decode cX1_addClimber 25 = .ok (.iload_n 1, 1) := by decide +kernel
theorem dX1_addClimber_26 : decode cX1_addClimber 26 = .ok (.iastore, 1) := by decide +kernel
theorem dX1_addClimber_27 : decode cX1_addClimber 27 = .ok (.aload_n 0, 1) := by decide +kernel
theorem dX1_addClimber_28 : decode cX1_addClimber 28 = .ok (.getfield 15, 3) := by decide +kernel
theorem dX1_addClimber_31 : decode cX1_addClimber 31 = .ok (.aload_n 0, 1) := by decide +kernel
theorem dX1_addClimber_32 : decode cX1_addClimber 32 = .ok (.getfield 33, 3) := by decide +kernel
theorem dX1_addClimber_35 : decode cX1_addClimber 35 = .ok (.iconst 0, 1) := by decide +kernel
theorem dX1_addClimber_36 : decode cX1_addClimber 36 = .ok (.iastore, 1) := by decide +kernel
theorem dX1_addClimber_37 : decode cX1_addClimber 37 = .ok (.aload_n 0, 1) := by decide +kernel
theorem dX1_addClimber_38 : decode cX1_addClimber 38 = .ok (.getfield 18, 3) := by decide +kernel
theorem dX1_addClimber_41 : decode cX1_addClimber 41 = .ok (.aload_n 0, 1) := by decide +kernel
theorem dX1_addClimber_42 : decode cX1_addClimber 42 = .ok (.getfield 33, 3) := by decide +kernel
theorem dX1_addClimber_45 : decode cX1_addClimber 45 = .ok (.iconst 0, 1) := by decide +kernel
theorem dX1_addClimber_46 : decode cX1_addClimber 46 = .ok (.iastore, 1) := by decide +kernel
theorem dX1_addClimber_47 : decode cX1_addClimber 47 = .ok (.aload_n 0, 1) := by decide +kernel
theorem dX1_addClimber_48 : decode cX1_addClimber 48 = .ok (.getfield 21, 3) := by decide +kernel
theorem dX1_addClimber_51 : decode cX1_addClimber 51 = .ok (.aload_n 0, 1) := by decide +kernel
theorem dX1_addClimber_52 : decode cX1_addClimber 52 = .ok (.getfield 33, 3) := by decide +kernel
theorem dX1_addClimber_55 : decode cX1_addClimber 55 = .ok (.iconst 0, 1) := by decide +kernel
theorem dX1_addClimber_56 : decode cX1_addClimber 56 = .ok (.iastore, 1) := by decide +kernel
theorem dX1_addClimber_57 : decode cX1_addClimber 57 = .ok (.aload_n 0, 1) := by decide +kernel
theorem dX1_addClimber_58 : decode cX1_addClimber 58 = .ok (.getfield 24, 3) := by decide +kernel
theorem dX1_addClimber_61 : decode cX1_addClimber 61 = .ok (.aload_n 0, 1) := by decide +kernel
theorem dX1_addClimber_62 : decode cX1_addClimber 62 = .ok (.getfield 33, 3) := by decide +kernel
theorem dX1_addClimber_65 : decode cX1_addClimber 65 = .ok (.iconst 0, 1) := by decide +kernel
theorem dX1_addClimber_66 : decode cX1_addClimber 66 = .ok (.iastore, 1) := by decide +kernel
theorem dX1_addClimber_67 : decode cX1_addClimber 67 = .ok (.aload_n 0, 1) := by decide +kernel
theorem dX1_addClimber_68 : decode cX1_addClimber 68 = .ok (.dup, 1) := by decide +kernel
theorem dX1_addClimber_69 : decode cX1_addClimber 69 = .ok (.getfield 33, 3) := by decide +kernel
theorem dX1_addClimber_72 : decode cX1_addClimber 72 = .ok (.iconst 1, 1) := by decide +kernel
theorem dX1_addClimber_73 : decode cX1_addClimber 73 = .ok (.iadd, 1) := by decide +kernel
theorem dX1_addClimber_74 : decode cX1_addClimber 74 = .ok (.putfield 33, 3) := by decide +kernel
theorem dX1_addClimber_77 : decode cX1_addClimber 77 = .ok (.return_, 1) := by decide +kernel
theorem dX1_takePaces_0 : decode cX1_takePaces 0 = .ok (.iconst 0, 1) := by decide +kernel
theorem dX1_takePaces_1 : decode cX1_takePaces 1 = .ok (.istore 5, 2) := by decide +kernel
theorem dX1_takePaces_3 : decode cX1_takePaces 3 = .ok (.iload 5, 2) := by decide +kernel
theorem dX1_takePaces_5 : decode cX1_takePaces 5 = .ok (.bipush 7, 2) := by decide +kernel
theorem dX1_takePaces_7 : decode cX1_takePaces 7 = .ok (.if_icmp .ge 52, 3) := by decide +kernel
theorem dX1_takePaces_10 : decode cX1_takePaces 10 = .ok (.iload 5, 2) := by decide +kernel
theorem dX1_takePaces_12 : decode cX1_takePaces 12 = .ok (.aload_n 0, 1) := by decide +kernel
theorem dX1_takePaces_13 : decode cX1_takePaces 13 = .ok (.getfield 33, 3) := by decide +kernel
theorem dX1_takePaces_16 : decode cX1_takePaces 16 = .ok (.if_icmp .ge 43, 3) := by decide +kernel
theorem dX1_takePaces_19 : decode cX1_takePaces 19 = .ok (.aload_n 0, 1) := by decide +kernel
theorem dX1_takePaces_20 : decode cX1_takePaces 20 = .ok (.getfield 9, 3) := by decide +kernel
theorem dX1_takePaces_23 : decode cX1_takePaces 23 = .ok (.iload 5, 2) := by decide +kernel
theorem dX1_takePaces_25 : decode cX1_takePaces 25 = .ok (.iload 5, 2) := by decide +kernel
theorem dX1_takePaces_27 : decode cX1_takePaces 27 = .ok (.iload_n 2, 1) := by decide +kernel
theorem dX1_takePaces_28 : decode cX1_takePaces 28 = .ok (.if_icmp .ge 23, 3) := by decide +kernel
theorem dX1_takePaces_31 : decode cX1_takePaces 31 = .ok (.iload_n 1, 1) := by decide +kernel
theorem dX1_takePaces_32 : decode cX1_takePaces 32 = .ok (.iload_n 3, 1) := by decide +kernel
theorem dX1_takePaces_33 : decode cX1_takePaces 33 = .ok (.iload 5, 2) := by decide +kernel
theorem dX1_takePaces_35 : decode cX1_takePaces 35 = .ok (.iload 4, 2) := by decide +kernel
theorem dX1_takePaces_37 : decode cX1_takePaces 37 = .ok (.imul, 1) := by decide +kernel
theorem dX1_takePaces_38 : decode cX1_takePaces 38 = .ok (.iadd, 1) := by decide +kernel
theorem dX1_takePaces_39 : decode cX1_takePaces 39 = .ok (.invokestatic 52, 3) := by decide +kernel
theorem dX1_takePaces_42 : decode cX1_takePaces 42 = .ok (.iconst 0, 1) := by decide +kernel
theorem dX1_takePaces_43 : decode cX1_takePaces 43 = .ok (.bipush 9, 2) := by decide +kernel
theorem dX1_takePaces_45 : decode cX1_takePaces 45 = .ok (.invokestatic 56, 3) := by decide +kernel
theorem dX1_takePaces_48 : decode cX1_takePaces 48 = .ok (.goto 4, 3) := by decide +kernel
theorem dX1_takePaces_51 : decode cX1_takePaces 51 = .ok (.iconst 0, 1) := by decide +kernel
theorem dX1_takePaces_52 : decode cX1_takePaces 52 = .ok (.iastore, 1) := by decide +kernel
theorem dX1_takePaces_53 : decode cX1_takePaces 53 = .ok (.iinc 5 1, 3) := by decide +kernel
theorem dX1_takePaces_56 : decode cX1_takePaces 56 = .ok (.goto (-53), 3) := by decide +kernel
theorem dX1_takePaces_59 : decode cX1_takePaces 59 = .ok (.return_, 1) := by decide +kernel
theorem dX1_entryAs_0 : decode cX1_entryAs 0 = .ok (.iload_n 0, 1) := by decide +kernel
theorem dX1_entryAs_1 : decode cX1_entryAs 1 = .ok (.ifCond .ne 8, 3) := by decide +kernel
theorem dX1_entryAs_4 : decode cX1_entryAs 4 = .ok (.iload_n 1, 1) := by decide +kernel
theorem dX1_entryAs_5 : decode cX1_entryAs 5 = .ok (.i2b, 1) := by decide +kernel
theorem dX1_entryAs_6 : decode cX1_entryAs 6 = .ok (.goto 14, 3) := by decide +kernel
theorem dX1_entryAs_9 : decode cX1_entryAs 9 = .ok (.iload_n 0, 1) := by decide +kernel
theorem dX1_entryAs_10 : decode cX1_entryAs 10 = .ok (.iconst 1, 1) := by decide +kernel
theorem dX1_entryAs_11 : decode cX1_entryAs 11 = .ok (.if_icmp .ne 8, 3) := by decide +kernel
theorem dX1_entryAs_14 : decode cX1_entryAs 14 = .ok (.iload_n 1, 1) := by decide +kernel
theorem dX1_entryAs_15 : decode cX1_entryAs 15 = .ok (.i2s, 1) := by decide +kernel
theorem dX1_entryAs_16 : decode cX1_entryAs 16 = .ok (.goto 4, 3) := by decide +kernel
theorem dX1_entryAs_19 : decode cX1_entryAs 19 = .ok (.iload_n 1, 1) := by decide +kernel
theorem dX1_entryAs_20 : decode cX1_entryAs 20 = .ok (.ireturn, 1) := by decide +kernel
theorem dX1_copyFrom_0 : decode cX1_copyFrom 0 = .ok (.aload_n 0, 1) := by decide +kernel
theorem dX1_copyFrom_1 : decode cX1_copyFrom 1 = .ok (.aload_n 1, 1) := by decide +kernel
theorem dX1_copyFrom_2 : decode cX1_copyFrom 2 = .ok (.getfield 33, 3) := by decide +kernel
theorem dX1_copyFrom_5 : decode cX1_copyFrom 5 = .ok (.putfield 33, 3) := by decide +kernel
theorem dX1_copyFrom_8 : decode cX1_copyFrom 8 = .ok (.aload_n 0, 1) := by decide +kernel
theorem dX1_copyFrom_9 : decode cX1_copyFrom 9 = .ok (.aload_n 1, 1) := by decide +kernel
theorem dX1_copyFrom_10 : decode cX1_copyFrom 10 = .ok (.getfield 37, 3) := by decide +kernel
theorem dX1_copyFrom_13 : decode cX1_copyFrom 13 = .ok (.putfield 37, 3) := by decide +kernel
theorem dX1_copyFrom_16 : decode cX1_copyFrom 16 = .ok (.aload_n 0, 1) := by decide +kernel
theorem dX1_copyFrom_17 : decode cX1_copyFrom 17 = .ok (.aload_n 1, 1) := by decide +kernel
theorem dX1_copyFrom_18 : decode cX1_copyFrom 18 = .ok (.getfield 40, 3) := by decide +kernel
theorem dX1_copyFrom_21 : decode cX1_copyFrom 21 = .ok (.putfield 40, 3) := by decide +kernel
theorem dX1_copyFrom_24 : decode cX1_copyFrom 24 = .ok (.aload_n 0, 1) := by decide +kernel
theorem dX1_copyFrom_25 : decode cX1_copyFrom 25 = .ok (.aload_n 1, 1) := by decide +kernel
theorem dX1_copyFrom_26 : decode cX1_copyFrom 26 = .ok (.getfield 43, 3) := by decide +kernel
theorem dX1_copyFrom_29 : decode cX1_copyFrom 29 = .ok (.putfield 43, 3) := by decide +kernel
theorem dX1_copyFrom_32 : decode cX1_copyFrom 32 = .ok (.aload_n 0, 1) := by decide +kernel
theorem dX1_copyFrom_33 : decode cX1_copyFrom 33 = .ok (.aload_n 1, 1) := by decide +kernel
theorem dX1_copyFrom_34 : decode cX1_copyFrom 34 = .ok (.getfield 46, 3) := by decide +kernel
theorem dX1_copyFrom_37 : decode cX1_copyFrom 37 = .ok (.putfield 46, 3) := by decide +kernel
theorem dX1_copyFrom_40 : decode cX1_copyFrom 40 = .ok (.aload_n 0, 1) := by decide +kernel
theorem dX1_copyFrom_41 : decode cX1_copyFrom 41 = .ok (.iconst 0, 1) := by decide +kernel
theorem dX1_copyFrom_42 : decode cX1_copyFrom 42 = .ok (.putfield 49, 3) := by decide +kernel
theorem dX1_copyFrom_45 : decode cX1_copyFrom 45 = .ok (.iconst 0, 1) := by decide +kernel
theorem dX1_copyFrom_46 : decode cX1_copyFrom 46 = .ok (.istore_n 2, 1) := by decide +kernel
theorem dX1_copyFrom_47 : decode cX1_copyFrom 47 = .ok (.iload_n 2, 1) := by decide +kernel
theorem dX1_copyFrom_48 : decode cX1_copyFrom 48 = .ok (.bipush 7, 2) := by decide +kernel
theorem dX1_copyFrom_50 : decode cX1_copyFrom 50 = .ok (.if_icmp .ge 69, 3) := by decide +kernel
theorem dX1_copyFrom_53 : decode cX1_copyFrom 53 = .ok (.aload_n 0, 1) := by decide +kernel
theorem dX1_copyFrom_54 : decode cX1_copyFrom 54 = .ok (.getfield 9, 3) := by decide +kernel
theorem dX1_copyFrom_57 : decode cX1_copyFrom 57 = .ok (.iload_n 2, 1) := by decide +kernel
theorem dX1_copyFrom_58 : decode cX1_copyFrom 58 = .ok (.aload_n 1, 1) := by decide +kernel
theorem dX1_copyFrom_59 : decode cX1_copyFrom 59 = .ok (.getfield 9, 3) := by decide +kernel
theorem dX1_copyFrom_62 : decode cX1_copyFrom 62 = .ok (.iload_n 2, 1) := by decide +kernel
theorem dX1_copyFrom_63 : decode cX1_copyFrom 63 = .ok (.iaload, 1) := by decide +kernel
theorem dX1_copyFrom_64 : decode cX1_copyFrom 64 = .ok (.iastore, 1) := by decide +kernel
theorem dX1_copyFrom_65 : decode cX1_copyFrom 65 = .ok (.aload_n 0, 1) := by decide +kernel
theorem dX1_copyFrom_66 : decode cX1_copyFrom 66 = .ok (.getfield 15, 3) := by decide +kernel
theorem dX1_copyFrom_69 : decode cX1_copyFrom 69 = .ok (.iload_n 2, 1) := by decide +kernel
theorem dX1_copyFrom_70 : decode cX1_copyFrom 70 = .ok (.aload_n 1, 1) := by decide +kernel
theorem dX1_copyFrom_71 : decode cX1_copyFrom 71 = .ok (.getfield 15, 3) := by decide +kernel
theorem dX1_copyFrom_74 : decode cX1_copyFrom 74 = .ok (.iload_n 2, 1) := by decide +kernel
theorem dX1_copyFrom_75 : decode cX1_copyFrom 75 = .ok (.iaload, 1) := by decide +kernel
theorem dX1_copyFrom_76 : decode cX1_copyFrom 76 = .ok (.iastore, 1) := by decide +kernel
theorem dX1_copyFrom_77 : decode cX1_copyFrom 77 = .ok (.aload_n 0, 1) := by decide +kernel
theorem dX1_copyFrom_78 : decode cX1_copyFrom 78 = .ok (.getfield 18, 3) := by decide +kernel
theorem dX1_copyFrom_81 : decode cX1_copyFrom 81 = .ok (.iload_n 2, 1) := by decide +kernel
theorem dX1_copyFrom_82 : decode cX1_copyFrom 82 = .ok (.aload_n 1, 1) := by decide +kernel
theorem dX1_copyFrom_83 : decode cX1_copyFrom 83 = .ok (.getfield 18, 3) := by decide +kernel
theorem dX1_copyFrom_86 : decode cX1_copyFrom 86 = .ok (.iload_n 2, 1) := by decide +kernel
theorem dX1_copyFrom_87 : decode cX1_copyFrom 87 = .ok (.iaload, 1) := by decide +kernel
theorem dX1_copyFrom_88 : decode cX1_copyFrom 88 = .ok (.iastore, 1) := by decide +kernel
theorem dX1_copyFrom_89 : decode cX1_copyFrom 89 = .ok (.aload_n 0, 1) := by decide +kernel
theorem dX1_copyFrom_90 : decode cX1_copyFrom 90 = .ok (.getfield 21, 3) := by decide +kernel
theorem dX1_copyFrom_93 : decode cX1_copyFrom 93 = .ok (.iload_n 2, 1) := by decide +kernel
theorem dX1_copyFrom_94 : decode cX1_copyFrom 94 = .ok (.aload_n 1, 1) := by decide +kernel
theorem dX1_copyFrom_95 : decode cX1_copyFrom 95 = .ok (.getfield 21, 3) := by decide +kernel
theorem dX1_copyFrom_98 : decode cX1_copyFrom 98 = .ok (.iload_n 2, 1) := by decide +kernel
theorem dX1_copyFrom_99 : decode cX1_copyFrom 99 = .ok (.iaload, 1) := by decide +kernel
theorem dX1_copyFrom_100 : decode cX1_copyFrom 100 = .ok (.iastore, 1) := by decide +kernel
theorem dX1_copyFrom_101 : decode cX1_copyFrom 101 = .ok (.aload_n 0, 1) := by decide +kernel
theorem dX1_copyFrom_102 : decode cX1_copyFrom 102 = .ok (.getfield 24, 3) := by decide +kernel
theorem dX1_copyFrom_105 : decode cX1_copyFrom 105 = .ok (.iload_n 2, 1) := by decide +kernel
theorem dX1_copyFrom_106 : decode cX1_copyFrom 106 = .ok (.aload_n 1, 1) := by decide +kernel
theorem dX1_copyFrom_107 : decode cX1_copyFrom 107 = .ok (.getfield 24, 3) := by decide +kernel
theorem dX1_copyFrom_110 : decode cX1_copyFrom 110 = .ok (.iload_n 2, 1) := by decide +kernel
theorem dX1_copyFrom_111 : decode cX1_copyFrom 111 = .ok (.iaload, 1) := by decide +kernel
theorem dX1_copyFrom_112 : decode cX1_copyFrom 112 = .ok (.iastore, 1) := by decide +kernel
theorem dX1_copyFrom_113 : decode cX1_copyFrom 113 = .ok (.iinc 2 1, 3) := by decide +kernel
theorem dX1_copyFrom_116 : decode cX1_copyFrom 116 = .ok (.goto (-69), 3) := by decide +kernel
theorem dX1_copyFrom_119 : decode cX1_copyFrom 119 = .ok (.return_, 1) := by decide +kernel
theorem dX1_changeTop_0 : decode cX1_changeTop 0 = .ok (.iload_n 1, 1) := by decide +kernel
theorem dX1_changeTop_1 : decode cX1_changeTop 1 = .ok (.iconst 2, 1) := by decide +kernel
theorem dX1_changeTop_2 : decode cX1_changeTop 2 = .ok (.bipush 9, 2) := by decide +kernel
theorem dX1_changeTop_4 : decode cX1_changeTop 4 = .ok (.invokestatic 60, 3) := by decide +kernel
theorem dX1_changeTop_7 : decode cX1_changeTop 7 = .ok (.ifCond .eq 5, 3) := by decide +kernel
theorem dX1_changeTop_10 : decode cX1_changeTop 10 = .ok (.iconst (-1), 1) := by decide +kernel
theorem dX1_changeTop_11 : decode cX1_changeTop 11 = .ok (.ireturn, 1) := by decide +kernel
theorem dX1_changeTop_12 : decode cX1_changeTop 12 = .ok (.iload_n 1, 1) := by decide +kernel
theorem dX1_changeTop_13 : decode cX1_changeTop 13 = .ok (.aload_n 0, 1) := by decide +kernel
theorem dX1_changeTop_14 : decode cX1_changeTop 14 = .ok (.getfield 37, 3) := by decide +kernel
theorem dX1_changeTop_17 : decode cX1_changeTop 17 = .ok (.if_icmp .ne 6, 3) := by decide +kernel
theorem dX1_changeTop_20 : decode cX1_changeTop 20 = .ok (.bipush (-2), 2) := by decide +kernel
theorem dX1_changeTop_22 : decode cX1_changeTop 22 = .ok (.ireturn, 1) := by decide +kernel
theorem dX1_changeTop_23 : decode cX1_changeTop 23 = .ok (.aload_n 0, 1) := by decide +kernel
theorem dX1_changeTop_24 : decode cX1_changeTop 24 = .ok (.invokevirtual 64, 3) := by decide +kernel
theorem dX1_changeTop_27 : decode cX1_changeTop 27 = .ok (.iload_n 1, 1) := by decide +kernel
theorem dX1_changeTop_28 : decode cX1_changeTop 28 = .ok (.if_icmp .le 6, 3) := by decide +kernel
theorem dX1_changeTop_31 : decode cX1_changeTop 31 = .ok (.bipush (-3), 2) := by decide +kernel
theorem dX1_changeTop_33 : decode cX1_changeTop 33 = .ok (.ireturn, 1) := by decide +kernel
theorem dX1_changeTop_34 : decode cX1_changeTop 34 = .ok (.aload_n 0, 1) := by decide +kernel
theorem dX1_changeTop_35 : decode cX1_changeTop 35 = .ok (.getfield 37, 3) := by decide +kernel
theorem dX1_changeTop_38 : decode cX1_changeTop 38 = .ok (.istore_n 2, 1) := by decide +kernel
theorem dX1_changeTop_39 : decode cX1_changeTop 39 = .ok (.aload_n 0, 1) := by decide +kernel
theorem dX1_changeTop_40 : decode cX1_changeTop 40 = .ok (.iload_n 1, 1) := by decide +kernel
theorem dX1_changeTop_41 : decode cX1_changeTop 41 = .ok (.putfield 37, 3) := by decide +kernel
theorem dX1_changeTop_44 : decode cX1_changeTop 44 = .ok (.bipush 10, 2) := by decide +kernel
theorem dX1_changeTop_46 : decode cX1_changeTop 46 = .ok (.iload_n 2, 1) := by decide +kernel
theorem dX1_changeTop_47 : decode cX1_changeTop 47 = .ok (.iadd, 1) := by decide +kernel
theorem dX1_changeTop_48 : decode cX1_changeTop 48 = .ok (.ireturn, 1) := by decide +kernel
theorem dX1_setOut_0 : decode cX1_setOut 0 = .ok (.aload_n 0, 1) := by decide +kernel
theorem dX1_setOut_1 : decode cX1_setOut 1 = .ok (.iload_n 1, 1) := by decide +kernel
theorem dX1_setOut_2 : decode cX1_setOut 2 = .ok (.invokevirtual 68, 3) := by decide +kernel
theorem dX1_setOut_5 : decode cX1_setOut 5 = .ok (.ifCond .ne 5, 3) := by decide +kernel
theorem dX1_setOut_8 : decode cX1_setOut 8 = .ok (.iconst (-1), 1) := by decide +kernel
theorem dX1_setOut_9 : decode cX1_setOut 9 = .ok (.ireturn, 1) := by decide +kernel
theorem dX1_setOut_10 : decode cX1_setOut 10 = .ok (.aload_n 0, 1) := by decide +kernel
theorem dX1_setOut_11 : decode cX1_setOut 11 = .ok (.getfield 18, 3) := by decide +kernel
theorem dX1_setOut_14 : decode cX1_setOut 14 = .ok (.iload_n 1, 1) := by decide +kernel
theorem dX1_setOut_15 : decode cX1_setOut 15 = .ok (.iaload, 1) := by decide +kernel
theorem dX1_setOut_16 : decode cX1_setOut 16 = .ok (.ifCond .eq 6, 3) := by decide +kernel
theorem dX1_setOut_19 : decode cX1_setOut 19 = .ok (.bipush (-2), 2) := by decide +kernel
theorem dX1_setOut_21 : decode cX1_setOut 21 = .ok (.ireturn, 1) := by decide +kernel
theorem dX1_setOut_22 : decode cX1_setOut 22 = .ok (.aload_n 0, 1) := by decide +kernel
theorem dX1_setOut_23 : decode cX1_setOut 23 = .ok (.getfield 18, 3) := by decide +kernel
theorem dX1_setOut_26 : decode cX1_setOut 26 = .ok (.iload_n 1, 1) := by decide +kernel
theorem dX1_setOut_27 : decode cX1_setOut 27 = .ok (.iconst 1, 1) := by decide +kernel
theorem dX1_setOut_28 : decode cX1_setOut 28 = .ok (.iastore, 1) := by decide +kernel
theorem dX1_setOut_29 : decode cX1_setOut 29 = .ok (.aload_n 0, 1) := by decide +kernel
theorem dX1_setOut_30 : decode cX1_setOut 30 = .ok (.invokevirtual 72, 3) := by decide +kernel
theorem dX1_setOut_33 : decode cX1_setOut 33 = .ok (.ireturn, 1) := by decide +kernel
theorem dX1_turnRound_0 : decode cX1_turnRound 0 = .ok (.aload_n 0, 1) := by decide +kernel
theorem dX1_turnRound_1 : decode cX1_turnRound 1 = .ok (.iload_n 1, 1) := by decide +kernel
theorem dX1_turnRound_2 : decode cX1_turnRound 2 = .ok (.invokevirtual 68, 3) := by decide +kernel
theorem dX1_turnRound_5 : decode cX1_turnRound 5 = .ok (.ifCond .ne 5, 3) := by decide +kernel
theorem dX1_turnRound_8 : decode cX1_turnRound 8 = .ok (.iconst (-1), 1) := by decide +kernel
theorem dX1_turnRound_9 : decode cX1_turnRound 9 = .ok (.ireturn, 1) := by decide +kernel
theorem dX1_turnRound_10 : decode cX1_turnRound 10 = .ok (.aload_n 0, 1) := by decide +kernel
theorem dX1_turnRound_11 : decode cX1_turnRound 11 = .ok (.getfield 18, 3) := by decide +kernel
theorem dX1_turnRound_14 : decode cX1_turnRound 14 = .ok (.iload_n 1, 1) := by decide +kernel
theorem dX1_turnRound_15 : decode cX1_turnRound 15 = .ok (.iaload, 1) := by decide +kernel
theorem dX1_turnRound_16 : decode cX1_turnRound 16 = .ok (.ifCond .ne 6, 3) := by decide +kernel
theorem dX1_turnRound_19 : decode cX1_turnRound 19 = .ok (.bipush (-2), 2) := by decide +kernel
theorem dX1_turnRound_21 : decode cX1_turnRound 21 = .ok (.ireturn, 1) := by decide +kernel
theorem dX1_turnRound_22 : decode cX1_turnRound 22 = .ok (.aload_n 0, 1) := by decide +kernel
theorem dX1_turnRound_23 : decode cX1_turnRound 23 = .ok (.getfield 18, 3) := by decide +kernel
theorem dX1_turnRound_26 : decode cX1_turnRound 26 = .ok (.iload_n 1, 1) := by decide +kernel
theorem dX1_turnRound_27 : decode cX1_turnRound 27 = .ok (.aload_n 0, 1) := by decide +kernel
theorem dX1_turnRound_28 : decode cX1_turnRound 28 = .ok (.getfield 18, 3) := by decide +kernel
theorem dX1_turnRound_31 : decode cX1_turnRound 31 = .ok (.iload_n 1, 1) := by decide +kernel
theorem dX1_turnRound_32 : decode cX1_turnRound 32 = .ok (.iaload, 1) := by decide +kernel
theorem dX1_turnRound_33 : decode cX1_turnRound 33 = .ok (.iconst 1, 1) := by decide +kernel
theorem dX1_turnRound_34 : decode cX1_turnRound 34 = .ok (.if_icmp .ne 7, 3) := by decide +kernel
theorem dX1_turnRound_37 : decode cX1_turnRound 37 = .ok (.iconst 2, 1) := by decide +kernel
theorem dX1_turnRound_38 : decode cX1_turnRound 38 = .ok (.goto 4, 3) := by decide +kernel
theorem dX1_turnRound_41 : decode cX1_turnRound 41 = .ok (.iconst 1, 1) := by decide +kernel
theorem dX1_turnRound_42 : decode cX1_turnRound 42 = .ok (.iastore, 1) := by decide +kernel
theorem dX1_turnRound_43 : decode cX1_turnRound 43 = .ok (.aload_n 0, 1) := by decide +kernel
theorem dX1_turnRound_44 : decode cX1_turnRound 44 = .ok (.getfield 18, 3) := by decide +kernel
theorem dX1_turnRound_47 : decode cX1_turnRound 47 = .ok (.iload_n 1, 1) := by decide +kernel
theorem dX1_turnRound_48 : decode cX1_turnRound 48 = .ok (.iaload, 1) := by decide +kernel
theorem dX1_turnRound_49 : decode cX1_turnRound 49 = .ok (.ireturn, 1) := by decide +kernel
theorem dX1_waitMore_0 : decode cX1_waitMore 0 = .ok (.aload_n 0, 1) := by decide +kernel
theorem dX1_waitMore_1 : decode cX1_waitMore 1 = .ok (.iload_n 1, 1) := by decide +kernel
theorem dX1_waitMore_2 : decode cX1_waitMore 2 = .ok (.invokevirtual 68, 3) := by decide +kernel
theorem dX1_waitMore_5 : decode cX1_waitMore 5 = .ok (.ifCond .eq 13, 3) := by decide +kernel
theorem dX1_waitMore_8 : decode cX1_waitMore 8 = .ok (.iload_n 2, 1) := by decide +kernel
theorem dX1_waitMore_9 : decode cX1_waitMore 9 = .ok (.iconst 1, 1) := by decide +kernel
theorem dX1_waitMore_10 : decode cX1_waitMore 10 = .ok (.bipush 9, 2) := by decide +kernel
theorem dX1_waitMore_12 : decode cX1_waitMore 12 = .ok (.invokestatic 60, 3) := by decide +kernel
theorem dX1_waitMore_15 : decode cX1_waitMore 15 = .ok (.ifCond .eq 5, 3) := by decide +kernel
theorem dX1_waitMore_18 : decode cX1_waitMore 18 = .ok (.iconst (-1), 1) := by decide +kernel
theorem dX1_waitMore_19 : decode cX1_waitMore 19 = .ok (.ireturn, 1) := by decide +kernel
theorem dX1_waitMore_20 : decode cX1_waitMore 20 = .ok (.aload_n 0, 1) := by decide +kernel
theorem dX1_waitMore_21 : decode cX1_waitMore 21 = .ok (.getfield 21, 3) := by decide +kernel
theorem dX1_waitMore_24 : decode cX1_waitMore 24 = .ok (.iload_n 1, 1) := by decide +kernel
theorem dX1_waitMore_25 : decode cX1_waitMore 25 = .ok (.bipush 99, 2) := by decide +kernel
theorem dX1_waitMore_27 : decode cX1_waitMore 27 = .ok (.aload_n 0, 1) := by decide +kernel
theorem dX1_waitMore_28 : decode cX1_waitMore 28 = .ok (.getfield 21, 3) := by decide +kernel
theorem dX1_waitMore_31 : decode cX1_waitMore 31 = .ok (.iload_n 1, 1) := by decide +kernel
theorem dX1_waitMore_32 : decode cX1_waitMore 32 = .ok (.iaload, 1) := by decide +kernel
theorem dX1_waitMore_33 : decode cX1_waitMore 33 = .ok (.iload_n 2, 1) := by decide +kernel
theorem dX1_waitMore_34 : decode cX1_waitMore 34 = .ok (.iadd, 1) := by decide +kernel
theorem dX1_waitMore_35 : decode cX1_waitMore 35 = .ok (.invokestatic 75, 3) := by decide +kernel
theorem dX1_waitMore_38 : decode cX1_waitMore 38 = .ok (.iastore, 1) := by decide +kernel
theorem dX1_waitMore_39 : decode cX1_waitMore 39 = .ok (.aload_n 0, 1) := by decide +kernel
theorem dX1_waitMore_40 : decode cX1_waitMore 40 = .ok (.getfield 21, 3) := by decide +kernel
theorem dX1_waitMore_43 : decode cX1_waitMore 43 = .ok (.iload_n 1, 1) := by decide +kernel
theorem dX1_waitMore_44 : decode cX1_waitMore 44 = .ok (.iaload, 1) := by decide +kernel
theorem dX1_waitMore_45 : decode cX1_waitMore 45 = .ok (.ireturn, 1) := by decide +kernel
theorem dX1_slipDown_0 : decode cX1_slipDown 0 = .ok (.aload_n 0, 1) := by decide +kernel
theorem dX1_slipDown_1 : decode cX1_slipDown 1 = .ok (.iload_n 1, 1) := by decide +kernel
theorem dX1_slipDown_2 : decode cX1_slipDown 2 = .ok (.invokevirtual 68, 3) := by decide +kernel
theorem dX1_slipDown_5 : decode cX1_slipDown 5 = .ok (.ifCond .eq 13, 3) := by decide +kernel
theorem dX1_slipDown_8 : decode cX1_slipDown 8 = .ok (.iload_n 2, 1) := by decide +kernel
theorem dX1_slipDown_9 : decode cX1_slipDown 9 = .ok (.iconst 1, 1) := by decide +kernel
theorem dX1_slipDown_10 : decode cX1_slipDown 10 = .ok (.bipush 9, 2) := by decide +kernel
theorem dX1_slipDown_12 : decode cX1_slipDown 12 = .ok (.invokestatic 60, 3) := by decide +kernel
theorem dX1_slipDown_15 : decode cX1_slipDown 15 = .ok (.ifCond .eq 5, 3) := by decide +kernel
theorem dX1_slipDown_18 : decode cX1_slipDown 18 = .ok (.iconst (-1), 1) := by decide +kernel
theorem dX1_slipDown_19 : decode cX1_slipDown 19 = .ok (.ireturn, 1) := by decide +kernel
theorem dX1_slipDown_20 : decode cX1_slipDown 20 = .ok (.aload_n 0, 1) := by decide +kernel
theorem dX1_slipDown_21 : decode cX1_slipDown 21 = .ok (.getfield 18, 3) := by decide +kernel
theorem dX1_slipDown_24 : decode cX1_slipDown 24 = .ok (.iload_n 1, 1) := by decide +kernel
theorem dX1_slipDown_25 : decode cX1_slipDown 25 = .ok (.iaload, 1) := by decide +kernel
theorem dX1_slipDown_26 : decode cX1_slipDown 26 = .ok (.ifCond .ne 6, 3) := by decide +kernel
theorem dX1_slipDown_29 : decode cX1_slipDown 29 = .ok (.bipush (-2), 2) := by decide +kernel
theorem dX1_slipDown_31 : decode cX1_slipDown 31 = .ok (.ireturn, 1) := by decide +kernel
theorem dX1_slipDown_32 : decode cX1_slipDown 32 = .ok (.aload_n 0, 1) := by decide +kernel
theorem dX1_slipDown_33 : decode cX1_slipDown 33 = .ok (.getfield 15, 3) := by decide +kernel
theorem dX1_slipDown_36 : decode cX1_slipDown 36 = .ok (.iload_n 1, 1) := by decide +kernel
theorem dX1_slipDown_37 : decode cX1_slipDown 37 = .ok (.iconst 0, 1) := by decide +kernel
theorem dX1_slipDown_38 : decode cX1_slipDown 38 = .ok (.aload_n 0, 1) := by decide +kernel
theorem dX1_slipDown_39 : decode cX1_slipDown 39 = .ok (.getfield 15, 3) := by decide +kernel
theorem dX1_slipDown_42 : decode cX1_slipDown 42 = .ok (.iload_n 1, 1) := by decide +kernel
theorem dX1_slipDown_43 : decode cX1_slipDown 43 = .ok (.iaload, 1) := by decide +kernel
theorem dX1_slipDown_44 : decode cX1_slipDown 44 = .ok (.iload_n 2, 1) := by decide +kernel
theorem dX1_slipDown_45 : decode cX1_slipDown 45 = .ok (.isub, 1) := by decide +kernel
theorem dX1_slipDown_46 : decode cX1_slipDown 46 = .ok (.invokestatic 80, 3) := by decide +kernel
theorem dX1_slipDown_49 : decode cX1_slipDown 49 = .ok (.iastore, 1) := by decide +kernel
theorem dX1_slipDown_50 : decode cX1_slipDown 50 = .ok (.aload_n 0, 1) := by decide +kernel
theorem dX1_slipDown_51 : decode cX1_slipDown 51 = .ok (.getfield 18, 3) := by decide +kernel
theorem dX1_slipDown_54 : decode cX1_slipDown 54 = .ok (.iload_n 1, 1) := by decide +kernel
theorem dX1_slipDown_55 : decode cX1_slipDown 55 = .ok (.iconst 2, 1) := by decide +kernel
theorem dX1_slipDown_56 : decode cX1_slipDown 56 = .ok (.iastore, 1) := by decide +kernel
theorem dX1_slipDown_57 : decode cX1_slipDown 57 = .ok (.aload_n 0, 1) := by decide +kernel
theorem dX1_slipDown_58 : decode cX1_slipDown 58 = .ok (.getfield 15, 3) := by decide +kernel
theorem dX1_slipDown_61 : decode cX1_slipDown 61 = .ok (.iload_n 1, 1) := by decide +kernel
theorem dX1_slipDown_62 : decode cX1_slipDown 62 = .ok (.iaload, 1) := by decide +kernel
theorem dX1_slipDown_63 : decode cX1_slipDown 63 = .ok (.ireturn, 1) := by decide +kernel
theorem dX1_passHours_0 : decode cX1_passHours 0 = .ok (.iconst 0, 1) := by decide +kernel
theorem dX1_passHours_1 : decode cX1_passHours 1 = .ok (.istore_n 3, 1) := by decide +kernel
theorem dX1_passHours_2 : decode cX1_passHours 2 = .ok (.iconst 0, 1) := by decide +kernel
theorem dX1_passHours_3 : decode cX1_passHours 3 = .ok (.istore 4, 2) := by decide +kernel
theorem dX1_passHours_5 : decode cX1_passHours 5 = .ok (.iload 4, 2) := by decide +kernel
theorem dX1_passHours_7 : decode cX1_passHours 7 = .ok (.iload_n 2, 1) := by decide +kernel
theorem dX1_passHours_8 : decode cX1_passHours 8 = .ok (.if_icmp .ge 24, 3) := by decide +kernel
theorem dX1_passHours_11 : decode cX1_passHours 11 = .ok (.aload_n 0, 1) := by decide +kernel
theorem dX1_passHours_12 : decode cX1_passHours 12 = .ok (.aload_n 1, 1) := by decide +kernel
theorem dX1_passHours_13 : decode cX1_passHours 13 = .ok (.invokevirtual 83, 3) := by decide +kernel
theorem dX1_passHours_16 : decode cX1_passHours 16 = .ok (.iload_n 3, 1) := by decide +kernel
theorem dX1_passHours_17 : decode cX1_passHours 17 = .ok (.aload_n 0, 1) := by decide +kernel
theorem dX1_passHours_18 : decode cX1_passHours 18 = .ok (.getfield 49, 3) := by decide +kernel
theorem dX1_passHours_21 : decode cX1_passHours 21 = .ok (.invokestatic 87, 3) := by decide +kernel
theorem dX1_passHours_24 : decode cX1_passHours 24 = .ok (.iadd, 1) := by decide +kernel
theorem dX1_passHours_25 : decode cX1_passHours 25 = .ok (.istore_n 3, 1) := by decide +kernel
theorem dX1_passHours_26 : decode cX1_passHours 26 = .ok (.iinc 4 1, 3) := by decide +kernel
theorem dX1_passHours_29 : decode cX1_passHours 29 = .ok (.goto (-24), 3) := by decide +kernel
theorem dX1_passHours_32 : decode cX1_passHours 32 = .ok (.iload_n 3, 1) := by decide +kernel
theorem dX1_passHours_33 : decode cX1_passHours 33 = .ok (.ireturn, 1) := by decide +kernel
theorem dX1_passHour_0 : decode cX1_passHour 0 = .ok (.iconst 0, 1) := by decide +kernel
theorem dX1_passHour_1 : decode cX1_passHour 1 = .ok (.istore_n 2, 1) := by decide +kernel
theorem dX1_passHour_2 : decode cX1_passHour 2 = .ok (.iload_n 2, 1) := by decide +kernel
theorem dX1_passHour_3 : decode cX1_passHour 3 = .ok (.bipush 7, 2) := by decide +kernel
theorem dX1_passHour_5 : decode cX1_passHour 5 = .ok (.if_icmp .ge 61, 3) := by decide +kernel
theorem dX1_passHour_8 : decode cX1_passHour 8 = .ok (.iload_n 2, 1) := by decide +kernel
theorem dX1_passHour_9 : decode cX1_passHour 9 = .ok (.aload_n 0, 1) := by decide +kernel
theorem dX1_passHour_10 : decode cX1_passHour 10 = .ok (.getfield 33, 3) := by decide +kernel
theorem dX1_passHour_13 : decode cX1_passHour 13 = .ok (.if_icmp .ge 53, 3) := by decide +kernel
theorem dX1_passHour_16 : decode cX1_passHour 16 = .ok (.aload_n 0, 1) := by decide +kernel
theorem dX1_passHour_17 : decode cX1_passHour 17 = .ok (.getfield 18, 3) := by decide +kernel
theorem dX1_passHour_20 : decode cX1_passHour 20 = .ok (.iload_n 2, 1) := by decide +kernel
theorem dX1_passHour_21 : decode cX1_passHour 21 = .ok (.iaload, 1) := by decide +kernel
theorem dX1_passHour_22 : decode cX1_passHour 22 = .ok (.ifCond .eq 16, 3) := by decide +kernel
theorem dX1_passHour_25 : decode cX1_passHour 25 = .ok (.aload_n 0, 1) := by decide +kernel
theorem dX1_passHour_26 : decode cX1_passHour 26 = .ok (.getfield 21, 3) := by decide +kernel
theorem dX1_passHour_29 : decode cX1_passHour 29 = .ok (.iload_n 2, 1) := by decide +kernel
theorem dX1_passHour_30 : decode cX1_passHour 30 = .ok (.iaload, 1) := by decide +kernel
theorem dX1_passHour_31 : decode cX1_passHour 31 = .ok (.ifCond .ne 7, 3) := by decide +kernel
theorem dX1_passHour_34 : decode cX1_passHour 34 = .ok (.iconst 1, 1) := by decide +kernel
theorem dX1_passHour_35 : decode cX1_passHour 35 = .ok (.goto 4, 3) := by decide +kernel
theorem dX1_passHour_38 : decode cX1_passHour 38 = .ok (.iconst 0, 1) := by decide +kernel
theorem dX1_passHour_39 : decode cX1_passHour 39 = .ok (.istore_n 3, 1) := by decide +kernel
theorem dX1_passHour_40 : decode cX1_passHour 40 = .ok (.aload_n 0, 1) := by decide +kernel
theorem dX1_passHour_41 : decode cX1_passHour 41 = .ok (.getfield 27, 3) := by decide +kernel
theorem dX1_passHour_44 : decode cX1_passHour 44 = .ok (.iload_n 2, 1) := by decide +kernel
theorem dX1_passHour_45 : decode cX1_passHour 45 = .ok (.iload_n 3, 1) := by decide +kernel
theorem dX1_passHour_46 : decode cX1_passHour 46 = .ok (.ifCond .eq 12, 3) := by decide +kernel
theorem dX1_passHour_49 : decode cX1_passHour 49 = .ok (.aload_n 1, 1) := by decide +kernel
theorem dX1_passHour_50 : decode cX1_passHour 50 = .ok (.aload_n 0, 1) := by decide +kernel
theorem dX1_passHour_51 : decode cX1_passHour 51 = .ok (.iload_n 2, 1) := by decide +kernel
theorem dX1_passHour_52 : decode cX1_passHour 52 = .ok (.invokevirtual 93, 3) := by decide +kernel
theorem dX1_passHour_55 : decode cX1_passHour 55 = .ok (.goto 4, 3) := by decide +kernel
theorem dX1_passHour_58 : decode cX1_passHour 58 = .ok (.iconst 0, 1) := by decide +kernel
theorem dX1_passHour_59 : decode cX1_passHour 59 = .ok (.iastore, 1) := by decide +kernel
theorem dX1_passHour_60 : decode cX1_passHour 60 = .ok (.iinc 2 1, 3) := by decide +kernel
theorem dX1_passHour_63 : decode cX1_passHour 63 = .ok (.goto (-61), 3) := by decide +kernel
theorem dX1_passHour_66 : decode cX1_passHour 66 = .ok (.aload_n 0, 1) := by decide +kernel
theorem dX1_passHour_67 : decode cX1_passHour 67 = .ok (.iconst 0, 1) := by decide +kernel
theorem dX1_passHour_68 : decode cX1_passHour 68 = .ok (.putfield 49, 3) := by decide +kernel
theorem dX1_passHour_71 : decode cX1_passHour 71 = .ok (.iconst 0, 1) := by decide +kernel
theorem dX1_passHour_72 : decode cX1_passHour 72 = .ok (.istore_n 2, 1) := by decide +kernel
theorem dX1_passHour_73 : decode cX1_passHour 73 = .ok (.iload_n 2, 1) := by decide +kernel
theorem dX1_passHour_74 : decode cX1_passHour 74 = .ok (.bipush 7, 2) := by decide +kernel
theorem dX1_passHour_76 : decode cX1_passHour 76 = .ok (.if_icmp .ge 76, 3) := by decide +kernel
theorem dX1_passHour_79 : decode cX1_passHour 79 = .ok (.iload_n 2, 1) := by decide +kernel
theorem dX1_passHour_80 : decode cX1_passHour 80 = .ok (.aload_n 0, 1) := by decide +kernel
theorem dX1_passHour_81 : decode cX1_passHour 81 = .ok (.getfield 33, 3) := by decide +kernel
theorem dX1_passHour_84 : decode cX1_passHour 84 = .ok (.if_icmp .ge 68, 3) := by decide +kernel
theorem dX1_passHour_87 : decode cX1_passHour 87 = .ok (.aload_n 0, 1) := by decide +kernel
theorem dX1_passHour_88 : decode cX1_passHour 88 = .ok (.iload_n 2, 1) := by decide +kernel
theorem dX1_passHour_89 : decode cX1_passHour 89 = .ok (.invokevirtual 99, 3) := by decide +kernel
theorem dX1_passHour_92 : decode cX1_passHour 92 = .ok (.aload_n 0, 1) := by decide +kernel
theorem dX1_passHour_93 : decode cX1_passHour 93 = .ok (.getfield 15, 3) := by decide +kernel
theorem dX1_passHour_96 : decode cX1_passHour 96 = .ok (.iload_n 2, 1) := by decide +kernel
theorem dX1_passHour_97 : decode cX1_passHour 97 = .ok (.iaload, 1) := by decide +kernel
theorem dX1_passHour_98 : decode cX1_passHour 98 = .ok (.aload_n 0, 1) := by decide +kernel
theorem dX1_passHour_99 : decode cX1_passHour 99 = .ok (.getfield 37, 3) := by decide +kernel
theorem dX1_passHour_102 : decode cX1_passHour 102 = .ok (.if_icmp .ne 20, 3) := by decide +kernel
theorem dX1_passHour_105 : decode cX1_passHour 105 = .ok (.aload_n 0, 1) := by decide +kernel
theorem dX1_passHour_106 : decode cX1_passHour 106 = .ok (.getfield 18, 3) := by decide +kernel
theorem dX1_passHour_109 : decode cX1_passHour 109 = .ok (.iload_n 2, 1) := by decide +kernel
theorem dX1_passHour_110 : decode cX1_passHour 110 = .ok (.iaload, 1) := by decide +kernel
theorem dX1_passHour_111 : decode cX1_passHour 111 = .ok (.iconst 1, 1) := by decide +kernel
theorem dX1_passHour_112 : decode cX1_passHour 112 = .ok (.if_icmp .ne 10, 3) := by decide +kernel
theorem dX1_passHour_115 : decode cX1_passHour 115 = .ok (.aload_n 0, 1) := by decide +kernel
theorem dX1_passHour_116 : decode cX1_passHour 116 = .ok (.getfield 18, 3) := by decide +kernel
theorem dX1_passHour_119 : decode cX1_passHour 119 = .ok (.iload_n 2, 1) := by decide +kernel
theorem dX1_passHour_120 : decode cX1_passHour 120 = .ok (.iconst 2, 1) := by decide +kernel
theorem dX1_passHour_121 : decode cX1_passHour 121 = .ok (.iastore, 1) := by decide +kernel
theorem dX1_passHour_122 : decode cX1_passHour 122 = .ok (.aload_n 0, 1) := by decide +kernel
theorem dX1_passHour_123 : decode cX1_passHour 123 = .ok (.getfield 15, 3) := by decide +kernel
theorem dX1_passHour_126 : decode cX1_passHour 126 = .ok (.iload_n 2, 1) := by decide +kernel
theorem dX1_passHour_127 : decode cX1_passHour 127 = .ok (.iaload, 1) := by decide +kernel
theorem dX1_passHour_128 : decode cX1_passHour 128 = .ok (.ifCond .ne 18, 3) := by decide +kernel
theorem dX1_passHour_131 : decode cX1_passHour 131 = .ok (.aload_n 0, 1) := by decide +kernel
theorem dX1_passHour_132 : decode cX1_passHour 132 = .ok (.getfield 18, 3) := by decide +kernel
theorem dX1_passHour_135 : decode cX1_passHour 135 = .ok (.iload_n 2, 1) := by decide +kernel
theorem dX1_passHour_136 : decode cX1_passHour 136 = .ok (.iaload, 1) := by decide +kernel
theorem dX1_passHour_137 : decode cX1_passHour 137 = .ok (.iconst 2, 1) := by decide +kernel
theorem dX1_passHour_138 : decode cX1_passHour 138 = .ok (.if_icmp .ne 8, 3) := by decide +kernel
theorem dX1_passHour_141 : decode cX1_passHour 141 = .ok (.aload_n 0, 1) := by decide +kernel
theorem dX1_passHour_142 : decode cX1_passHour 142 = .ok (.iload_n 2, 1) := by decide +kernel
theorem dX1_passHour_143 : decode cX1_passHour 143 = .ok (.invokevirtual 103, 3) := by decide +kernel
theorem dX1_passHour_146 : decode cX1_passHour 146 = .ok (.iinc 2 1, 3) := by decide +kernel
theorem dX1_passHour_149 : decode cX1_passHour 149 = .ok (.goto (-76), 3) := by decide +kernel
theorem dX1_passHour_152 : decode cX1_passHour 152 = .ok (.aload_n 0, 1) := by decide +kernel
theorem dX1_passHour_153 : decode cX1_passHour 153 = .ok (.aload_n 0, 1) := by decide +kernel
theorem dX1_passHour_154 : decode cX1_passHour 154 = .ok (.getfield 40, 3) := by decide +kernel
theorem dX1_passHour_157 : decode cX1_passHour 157 = .ok (.invokevirtual 68, 3) := by decide +kernel
theorem dX1_passHour_160 : decode cX1_passHour 160 = .ok (.ifCond .eq 29, 3) := by decide +kernel
theorem dX1_passHour_163 : decode cX1_passHour 163 = .ok (.aload_n 0, 1) := by decide +kernel
theorem dX1_passHour_164 : decode cX1_passHour 164 = .ok (.getfield 24, 3) := by decide +kernel
theorem dX1_passHour_167 : decode cX1_passHour 167 = .ok (.aload_n 0, 1) := by decide +kernel
theorem dX1_passHour_168 : decode cX1_passHour 168 = .ok (.getfield 40, 3) := by decide +kernel
theorem dX1_passHour_171 : decode cX1_passHour 171 = .ok (.sipush 999, 3) := by decide +kernel
theorem dX1_passHour_174 : decode cX1_passHour 174 = .ok (.aload_n 0, 1) := by decide +kernel
theorem dX1_passHour_175 : decode cX1_passHour 175 = .ok (.getfield 24, 3) := by decide +kernel
theorem dX1_passHour_178 : decode cX1_passHour 178 = .ok (.aload_n 0, 1) := by decide +kernel
theorem dX1_passHour_179 : decode cX1_passHour 179 = .ok (.getfield 40, 3) := by decide +kernel
theorem dX1_passHour_182 : decode cX1_passHour 182 = .ok (.iaload, 1) := by decide +kernel
theorem dX1_passHour_183 : decode cX1_passHour 183 = .ok (.iconst 1, 1) := by decide +kernel
theorem dX1_passHour_184 : decode cX1_passHour 184 = .ok (.iadd, 1) := by decide +kernel
theorem dX1_passHour_185 : decode cX1_passHour 185 = .ok (.invokestatic 75, 3) := by decide +kernel
theorem dX1_passHour_188 : decode cX1_passHour 188 = .ok (.iastore, 1) := by decide +kernel
theorem dX1_passHour_189 : decode cX1_passHour 189 = .ok (.aload_n 0, 1) := by decide +kernel
theorem dX1_passHour_190 : decode cX1_passHour 190 = .ok (.dup, 1) := by decide +kernel
theorem dX1_passHour_191 : decode cX1_passHour 191 = .ok (.getfield 43, 3) := by decide +kernel
theorem dX1_passHour_194 : decode cX1_passHour 194 = .ok (.iconst 1, 1) := by decide +kernel
theorem dX1_passHour_195 : decode cX1_passHour 195 = .ok (.iadd, 1) := by decide +kernel
theorem dX1_passHour_196 : decode cX1_passHour 196 = .ok (.putfield 43, 3) := by decide +kernel
theorem dX1_passHour_199 : decode cX1_passHour 199 = .ok (.return_, 1) := by decide +kernel
theorem dX1_move_0 : decode cX1_move 0 = .ok (.aload_n 0, 1) := by decide +kernel
theorem dX1_move_1 : decode cX1_move 1 = .ok (.iload_n 1, 1) := by decide +kernel
theorem dX1_move_2 : decode cX1_move 2 = .ok (.invokevirtual 68, 3) := by decide +kernel
theorem dX1_move_5 : decode cX1_move 5 = .ok (.ifCond .ne 4, 3) := by decide +kernel
theorem dX1_move_8 : decode cX1_move 8 = .ok (.return_, 1) := by decide +kernel
theorem dX1_move_9 : decode cX1_move 9 = .ok (.aload_n 0, 1) := by decide +kernel
theorem dX1_move_10 : decode cX1_move 10 = .ok (.getfield 15, 3) := by decide +kernel
theorem dX1_move_13 : decode cX1_move 13 = .ok (.iload_n 1, 1) := by decide +kernel
theorem dX1_move_14 : decode cX1_move 14 = .ok (.iaload, 1) := by decide +kernel
theorem dX1_move_15 : decode cX1_move 15 = .ok (.istore_n 2, 1) := by decide +kernel
theorem dX1_move_16 : decode cX1_move 16 = .ok (.aload_n 0, 1) := by decide +kernel
theorem dX1_move_17 : decode cX1_move 17 = .ok (.getfield 21, 3) := by decide +kernel
theorem dX1_move_20 : decode cX1_move 20 = .ok (.iload_n 1, 1) := by decide +kernel
theorem dX1_move_21 : decode cX1_move 21 = .ok (.iaload, 1) := by decide +kernel
theorem dX1_move_22 : decode cX1_move 22 = .ok (.ifCond .le 16, 3) := by decide +kernel
theorem dX1_move_25 : decode cX1_move 25 = .ok (.aload_n 0, 1) := by decide +kernel
theorem dX1_move_26 : decode cX1_move 26 = .ok (.getfield 21, 3) := by decide +kernel
theorem dX1_move_29 : decode cX1_move 29 = .ok (.iload_n 1, 1) := by decide +kernel
theorem dX1_move_30 : decode cX1_move 30 = .ok (.dup2, 1) := by decide +kernel
theorem dX1_move_31 : decode cX1_move 31 = .ok (.iaload, 1) := by decide +kernel
theorem dX1_move_32 : decode cX1_move 32 = .ok (.iconst 1, 1) := by decide +kernel
theorem dX1_move_33 : decode cX1_move 33 = .ok (.isub, 1) := by decide +kernel
theorem dX1_move_34 : decode cX1_move 34 = .ok (.iastore, 1) := by decide +kernel
theorem dX1_move_35 : decode cX1_move 35 = .ok (.goto 65, 3) := by decide +kernel
theorem dX1_move_38 : decode cX1_move 38 = .ok (.aload_n 0, 1) := by decide +kernel
theorem dX1_move_39 : decode cX1_move 39 = .ok (.getfield 18, 3) := by decide +kernel
theorem dX1_move_42 : decode cX1_move 42 = .ok (.iload_n 1, 1) := by decide +kernel
theorem dX1_move_43 : decode cX1_move 43 = .ok (.iaload, 1) := by decide +kernel
theorem dX1_move_44 : decode cX1_move 44 = .ok (.iconst 1, 1) := by decide +kernel
theorem dX1_move_45 : decode cX1_move 45 = .ok (.if_icmp .ne 27, 3) := by decide +kernel
theorem dX1_move_48 : decode cX1_move 48 = .ok (.aload_n 0, 1) := by decide +kernel
theorem dX1_move_49 : decode cX1_move 49 = .ok (.getfield 15, 3) := by decide +kernel
theorem dX1_move_52 : decode cX1_move 52 = .ok (.iload_n 1, 1) := by decide +kernel
theorem dX1_move_53 : decode cX1_move 53 = .ok (.aload_n 0, 1) := by decide +kernel
theorem dX1_move_54 : decode cX1_move 54 = .ok (.getfield 37, 3) := by decide +kernel
theorem dX1_move_57 : decode cX1_move 57 = .ok (.iload_n 2, 1) := by decide +kernel
theorem dX1_move_58 : decode cX1_move 58 = .ok (.aload_n 0, 1) := by decide +kernel
theorem dX1_move_59 : decode cX1_move 59 = .ok (.getfield 27, 3) := by decide +kernel
theorem dX1_move_62 : decode cX1_move 62 = .ok (.iload_n 1, 1) := by decide +kernel
theorem dX1_move_63 : decode cX1_move 63 = .ok (.iaload, 1) := by decide +kernel
theorem dX1_move_64 : decode cX1_move 64 = .ok (.iadd, 1) := by decide +kernel
theorem dX1_move_65 : decode cX1_move 65 = .ok (.invokestatic 75, 3) := by decide +kernel
theorem dX1_move_68 : decode cX1_move 68 = .ok (.iastore, 1) := by decide +kernel
theorem dX1_move_69 : decode cX1_move 69 = .ok (.goto 31, 3) := by decide +kernel
theorem dX1_move_72 : decode cX1_move 72 = .ok (.aload_n 0, 1) := by decide +kernel
theorem dX1_move_73 : decode cX1_move 73 = .ok (.getfield 18, 3) := by decide +kernel
theorem dX1_move_76 : decode cX1_move 76 = .ok (.iload_n 1, 1) := by decide +kernel
theorem dX1_move_77 : decode cX1_move 77 = .ok (.iaload, 1) := by decide +kernel
theorem dX1_move_78 : decode cX1_move 78 = .ok (.iconst 2, 1) := by decide +kernel
theorem dX1_move_79 : decode cX1_move 79 = .ok (.if_icmp .ne 21, 3) := by decide +kernel
theorem dX1_move_82 : decode cX1_move 82 = .ok (.aload_n 0, 1) := by decide +kernel
theorem dX1_move_83 : decode cX1_move 83 = .ok (.getfield 15, 3) := by decide +kernel
theorem dX1_move_86 : decode cX1_move 86 = .ok (.iload_n 1, 1) := by decide +kernel
theorem dX1_move_87 : decode cX1_move 87 = .ok (.iconst 0, 1) := by decide +kernel
theorem dX1_move_88 : decode cX1_move 88 = .ok (.iload_n 2, 1) := by decide +kernel
theorem dX1_move_89 : decode cX1_move 89 = .ok (.aload_n 0, 1) := by decide +kernel
theorem dX1_move_90 : decode cX1_move 90 = .ok (.getfield 27, 3) := by decide +kernel
theorem dX1_move_93 : decode cX1_move 93 = .ok (.iload_n 1, 1) := by decide +kernel
theorem dX1_move_94 : decode cX1_move 94 = .ok (.iaload, 1) := by decide +kernel
theorem dX1_move_95 : decode cX1_move 95 = .ok (.isub, 1) := by decide +kernel
theorem dX1_move_96 : decode cX1_move 96 = .ok (.invokestatic 80, 3) := by decide +kernel
theorem dX1_move_99 : decode cX1_move 99 = .ok (.iastore, 1) := by decide +kernel
theorem dX1_move_100 : decode cX1_move 100 = .ok (.aload_n 0, 1) := by decide +kernel
theorem dX1_move_101 : decode cX1_move 101 = .ok (.getfield 30, 3) := by decide +kernel
theorem dX1_move_104 : decode cX1_move 104 = .ok (.iload_n 1, 1) := by decide +kernel
theorem dX1_move_105 : decode cX1_move 105 = .ok (.aload_n 0, 1) := by decide +kernel
theorem dX1_move_106 : decode cX1_move 106 = .ok (.getfield 15, 3) := by decide +kernel
theorem dX1_move_109 : decode cX1_move 109 = .ok (.iload_n 1, 1) := by decide +kernel
theorem dX1_move_110 : decode cX1_move 110 = .ok (.iaload, 1) := by decide +kernel
theorem dX1_move_111 : decode cX1_move 111 = .ok (.iload_n 2, 1) := by decide +kernel
theorem dX1_move_112 : decode cX1_move 112 = .ok (.isub, 1) := by decide +kernel
theorem dX1_move_113 : decode cX1_move 113 = .ok (.invokestatic 106, 3) := by decide +kernel
theorem dX1_move_116 : decode cX1_move 116 = .ok (.iastore, 1) := by decide +kernel
theorem dX1_move_117 : decode cX1_move 117 = .ok (.return_, 1) := by decide +kernel
theorem dX1_comeDown_0 : decode cX1_comeDown 0 = .ok (.aload_n 0, 1) := by decide +kernel
theorem dX1_comeDown_1 : decode cX1_comeDown 1 = .ok (.iload_n 1, 1) := by decide +kernel
theorem dX1_comeDown_2 : decode cX1_comeDown 2 = .ok (.invokevirtual 68, 3) := by decide +kernel
theorem dX1_comeDown_5 : decode cX1_comeDown 5 = .ok (.ifCond .ne 4, 3) := by decide +kernel
theorem dX1_comeDown_8 : decode cX1_comeDown 8 = .ok (.return_, 1) := by decide +kernel
theorem dX1_comeDown_9 : decode cX1_comeDown 9 = .ok (.aload_n 0, 1) := by decide +kernel
theorem dX1_comeDown_10 : decode cX1_comeDown 10 = .ok (.getfield 18, 3) := by decide +kernel
theorem dX1_comeDown_13 : decode cX1_comeDown 13 = .ok (.iload_n 1, 1) := by decide +kernel
theorem dX1_comeDown_14 : decode cX1_comeDown 14 = .ok (.iconst 0, 1) := by decide +kernel
theorem dX1_comeDown_15 : decode cX1_comeDown 15 = .ok (.iastore, 1) := by decide +kernel
theorem dX1_comeDown_16 : decode cX1_comeDown 16 = .ok (.aload_n 0, 1) := by decide +kernel
theorem dX1_comeDown_17 : decode cX1_comeDown 17 = .ok (.iload_n 1, 1) := by decide +kernel
theorem dX1_comeDown_18 : decode cX1_comeDown 18 = .ok (.putfield 40, 3) := by decide +kernel
theorem dX1_comeDown_21 : decode cX1_comeDown 21 = .ok (.aload_n 0, 1) := by decide +kernel
theorem dX1_comeDown_22 : decode cX1_comeDown 22 = .ok (.sipush 9999, 3) := by decide +kernel
theorem dX1_comeDown_25 : decode cX1_comeDown 25 = .ok (.aload_n 0, 1) := by decide +kernel
theorem dX1_comeDown_26 : decode cX1_comeDown 26 = .ok (.getfield 46, 3) := by decide +kernel
theorem dX1_comeDown_29 : decode cX1_comeDown 29 = .ok (.iconst 1, 1) := by decide +kernel
theorem dX1_comeDown_30 : decode cX1_comeDown 30 = .ok (.iadd, 1) := by decide +kernel
theorem dX1_comeDown_31 : decode cX1_comeDown 31 = .ok (.invokestatic 75, 3) := by decide +kernel
theorem dX1_comeDown_34 : decode cX1_comeDown 34 = .ok (.putfield 46, 3) := by decide +kernel
theorem dX1_comeDown_37 : decode cX1_comeDown 37 = .ok (.aload_n 0, 1) := by decide +kernel
theorem dX1_comeDown_38 : decode cX1_comeDown 38 = .ok (.dup, 1) := by decide +kernel
theorem dX1_comeDown_39 : decode cX1_comeDown 39 = .ok (.getfield 49, 3) := by decide +kernel
theorem dX1_comeDown_42 : decode cX1_comeDown 42 = .ok (.iconst 1, 1) := by decide +kernel
theorem dX1_comeDown_43 : decode cX1_comeDown 43 = .ok (.iload_n 1, 1) := by decide +kernel
theorem dX1_comeDown_44 : decode cX1_comeDown 44 = .ok (.ishl, 1) := by decide +kernel
theorem dX1_comeDown_45 : decode cX1_comeDown 45 = .ok (.ior, 1) := by decide +kernel
theorem dX1_comeDown_46 : decode cX1_comeDown 46 = .ok (.putfield 49, 3) := by decide +kernel
theorem dX1_comeDown_49 : decode cX1_comeDown 49 = .ok (.return_, 1) := by decide +kernel
theorem dX1_letter_0 : decode cX1_letter 0 = .ok (.aload_n 0, 1) := by decide +kernel
theorem dX1_letter_1 : decode cX1_letter 1 = .ok (.iload_n 2, 1) := by decide +kernel
theorem dX1_letter_2 : decode cX1_letter 2 = .ok (.invokevirtual 68, 3) := by decide +kernel
theorem dX1_letter_5 : decode cX1_letter 5 = .ok (.ifCond .ne 5, 3) := by decide +kernel
theorem dX1_letter_8 : decode cX1_letter 8 = .ok (.iconst 0, 1) := by decide +kernel
theorem dX1_letter_9 : decode cX1_letter 9 = .ok (.ireturn, 1) := by decide +kernel
theorem dX1_letter_10 : decode cX1_letter 10 = .ok (.iload_n 1, 1) := by decide +kernel
theorem dX1_letter_11 : decode cX1_letter 11 = .ok (.tableswitch 169 98 117 #[149, 169, 169, 169, 169, 169, 100, 169, 169, 137, 169, 169, 161, 123, 93, 169, 169, 169, 169, 107], 93) := by decide +kernel
theorem dX1_letter_104 : decode cX1_letter 104 = .ok (.aload_n 0, 1) := by decide +kernel
theorem dX1_letter_105 : decode cX1_letter 105 = .ok (.getfield 9, 3) := by decide +kernel
theorem dX1_letter_108 : decode cX1_letter 108 = .ok (.iload_n 2, 1) := by decide +kernel
theorem dX1_letter_109 : decode cX1_letter 109 = .ok (.iaload, 1) := by decide +kernel
theorem dX1_letter_110 : decode cX1_letter 110 = .ok (.ireturn, 1) := by decide +kernel
theorem dX1_letter_111 : decode cX1_letter 111 = .ok (.aload_n 0, 1) := by decide +kernel
theorem dX1_letter_112 : decode cX1_letter 112 = .ok (.getfield 15, 3) := by decide +kernel
theorem dX1_letter_115 : decode cX1_letter 115 = .ok (.iload_n 2, 1) := by decide +kernel
theorem dX1_letter_116 : decode cX1_letter 116 = .ok (.iaload, 1) := by decide +kernel
theorem dX1_letter_117 : decode cX1_letter 117 = .ok (.ireturn, 1) := by decide +kernel
theorem dX1_letter_118 : decode cX1_letter 118 = .ok (.aload_n 0, 1) := by decide +kernel
theorem dX1_letter_119 : decode cX1_letter 119 = .ok (.getfield 18, 3) := by decide +kernel
theorem dX1_letter_122 : decode cX1_letter 122 = .ok (.iload_n 2, 1) := by decide +kernel
theorem dX1_letter_123 : decode cX1_letter 123 = .ok (.iaload, 1) := by decide +kernel
theorem dX1_letter_124 : decode cX1_letter 124 = .ok (.iconst 1, 1) := by decide +kernel
theorem dX1_letter_125 : decode cX1_letter 125 = .ok (.if_icmp .ne 7, 3) := by decide +kernel
theorem dX1_letter_128 : decode cX1_letter 128 = .ok (.iconst 1, 1) := by decide +kernel
theorem dX1_letter_129 : decode cX1_letter 129 = .ok (.goto 4, 3) := by decide +kernel
theorem dX1_letter_132 : decode cX1_letter 132 = .ok (.iconst 0, 1) := by decide +kernel
theorem dX1_letter_133 : decode cX1_letter 133 = .ok (.ireturn, 1) := by decide +kernel
theorem dX1_letter_134 : decode cX1_letter 134 = .ok (.aload_n 0, 1) := by decide +kernel
theorem dX1_letter_135 : decode cX1_letter 135 = .ok (.getfield 40, 3) := by decide +kernel
theorem dX1_letter_138 : decode cX1_letter 138 = .ok (.iload_n 2, 1) := by decide +kernel
theorem dX1_letter_139 : decode cX1_letter 139 = .ok (.if_icmp .ne 7, 3) := by decide +kernel
theorem dX1_letter_142 : decode cX1_letter 142 = .ok (.iconst 1, 1) := by decide +kernel
theorem dX1_letter_143 : decode cX1_letter 143 = .ok (.goto 4, 3) := by decide +kernel
theorem dX1_letter_146 : decode cX1_letter 146 = .ok (.iconst 0, 1) := by decide +kernel
theorem dX1_letter_147 : decode cX1_letter 147 = .ok (.ireturn, 1) := by decide +kernel
theorem dX1_letter_148 : decode cX1_letter 148 = .ok (.aload_n 0, 1) := by decide +kernel
theorem dX1_letter_149 : decode cX1_letter 149 = .ok (.aload_n 0, 1) := by decide +kernel
theorem dX1_letter_150 : decode cX1_letter 150 = .ok (.getfield 15, 3) := by decide +kernel
theorem dX1_letter_153 : decode cX1_letter 153 = .ok (.iload_n 2, 1) := by decide +kernel
theorem dX1_letter_154 : decode cX1_letter 154 = .ok (.iaload, 1) := by decide +kernel
theorem dX1_letter_155 : decode cX1_letter 155 = .ok (.iload_n 2, 1) := by decide +kernel
theorem dX1_letter_156 : decode cX1_letter 156 = .ok (.invokevirtual 109, 3) := by decide +kernel
theorem dX1_letter_159 : decode cX1_letter 159 = .ok (.ireturn, 1) := by decide +kernel
theorem dX1_letter_160 : decode cX1_letter 160 = .ok (.aload_n 0, 1) := by decide +kernel
theorem dX1_letter_161 : decode cX1_letter 161 = .ok (.aload_n 0, 1) := by decide +kernel
theorem dX1_letter_162 : decode cX1_letter 162 = .ok (.getfield 15, 3) := by decide +kernel
theorem dX1_letter_165 : decode cX1_letter 165 = .ok (.iload_n 2, 1) := by decide +kernel
theorem dX1_letter_166 : decode cX1_letter 166 = .ok (.iaload, 1) := by decide +kernel
theorem dX1_letter_167 : decode cX1_letter 167 = .ok (.iload_n 2, 1) := by decide +kernel
theorem dX1_letter_168 : decode cX1_letter 168 = .ok (.invokevirtual 112, 3) := by decide +kernel
theorem dX1_letter_171 : decode cX1_letter 171 = .ok (.ireturn, 1) := by decide +kernel
theorem dX1_letter_172 : decode cX1_letter 172 = .ok (.aload_n 0, 1) := by decide +kernel
theorem dX1_letter_173 : decode cX1_letter 173 = .ok (.getfield 43, 3) := by decide +kernel
theorem dX1_letter_176 : decode cX1_letter 176 = .ok (.bipush 7, 2) := by decide +kernel
theorem dX1_letter_178 : decode cX1_letter 178 = .ok (.irem, 1) := by decide +kernel
theorem dX1_letter_179 : decode cX1_letter 179 = .ok (.ireturn, 1) := by decide +kernel
theorem dX1_letter_180 : decode cX1_letter 180 = .ok (.iconst 0, 1) := by decide +kernel
theorem dX1_letter_181 : decode cX1_letter 181 = .ok (.ireturn, 1) := by decide +kernel
theorem dX1_othersAt_0 : decode cX1_othersAt 0 = .ok (.iconst 0, 1) := by decide +kernel
theorem dX1_othersAt_1 : decode cX1_othersAt 1 = .ok (.istore_n 3, 1) := by decide +kernel
theorem dX1_othersAt_2 : decode cX1_othersAt 2 = .ok (.iconst 0, 1) := by decide +kernel
theorem dX1_othersAt_3 : decode cX1_othersAt 3 = .ok (.istore 4, 2) := by decide +kernel
theorem dX1_othersAt_5 : decode cX1_othersAt 5 = .ok (.iload 4, 2) := by decide +kernel
theorem dX1_othersAt_7 : decode cX1_othersAt 7 = .ok (.bipush 7, 2) := by decide +kernel
theorem dX1_othersAt_9 : decode cX1_othersAt 9 = .ok (.if_icmp .ge 48, 3) := by decide +kernel
theorem dX1_othersAt_12 : decode cX1_othersAt 12 = .ok (.iload 4, 2) := by decide +kernel
theorem dX1_othersAt_14 : decode cX1_othersAt 14 = .ok (.aload_n 0, 1) := by decide +kernel
theorem dX1_othersAt_15 : decode cX1_othersAt 15 = .ok (.getfield 33, 3) := by decide +kernel
theorem dX1_othersAt_18 : decode cX1_othersAt 18 = .ok (.if_icmp .ge 39, 3) := by decide +kernel
theorem dX1_othersAt_21 : decode cX1_othersAt 21 = .ok (.iload 4, 2) := by decide +kernel
theorem dX1_othersAt_23 : decode cX1_othersAt 23 = .ok (.iload_n 2, 1) := by decide +kernel
theorem dX1_othersAt_24 : decode cX1_othersAt 24 = .ok (.if_icmp .eq 27, 3) := by decide +kernel
theorem dX1_othersAt_27 : decode cX1_othersAt 27 = .ok (.aload_n 0, 1) := by decide +kernel
theorem dX1_othersAt_28 : decode cX1_othersAt 28 = .ok (.getfield 18, 3) := by decide +kernel
theorem dX1_othersAt_31 : decode cX1_othersAt 31 = .ok (.iload 4, 2) := by decide +kernel
theorem dX1_othersAt_33 : decode cX1_othersAt 33 = .ok (.iaload, 1) := by decide +kernel
theorem dX1_othersAt_34 : decode cX1_othersAt 34 = .ok (.ifCond .eq 17, 3) := by decide +kernel
theorem dX1_othersAt_37 : decode cX1_othersAt 37 = .ok (.aload_n 0, 1) := by decide +kernel
theorem dX1_othersAt_38 : decode cX1_othersAt 38 = .ok (.getfield 15, 3) := by decide +kernel
theorem dX1_othersAt_41 : decode cX1_othersAt 41 = .ok (.iload 4, 2) := by decide +kernel
theorem dX1_othersAt_43 : decode cX1_othersAt 43 = .ok (.iaload, 1) := by decide +kernel
theorem dX1_othersAt_44 : decode cX1_othersAt 44 = .ok (.iload_n 1, 1) := by decide +kernel
theorem dX1_othersAt_45 : decode cX1_othersAt 45 = .ok (.if_icmp .ne 6, 3) := by decide +kernel
theorem dX1_othersAt_48 : decode cX1_othersAt 48 = .ok (.iinc 3 1, 3) := by decide +kernel
theorem dX1_othersAt_51 : decode cX1_othersAt 51 = .ok (.iinc 4 1, 3) := by decide +kernel
theorem dX1_othersAt_54 : decode cX1_othersAt 54 = .ok (.goto (-49), 3) := by decide +kernel
theorem dX1_othersAt_57 : decode cX1_othersAt 57 = .ok (.iload_n 3, 1) := by decide +kernel
theorem dX1_othersAt_58 : decode cX1_othersAt 58 = .ok (.ireturn, 1) := by decide +kernel
theorem dX1_othersDownBelow_0 : decode cX1_othersDownBelow 0 = .ok (.iconst 0, 1) := by decide +kernel
theorem dX1_othersDownBelow_1 : decode cX1_othersDownBelow 1 = .ok (.istore_n 3, 1) := by decide +kernel
theorem dX1_othersDownBelow_2 : decode cX1_othersDownBelow 2 = .ok (.iconst 0, 1) := by decide +kernel
theorem dX1_othersDownBelow_3 : decode cX1_othersDownBelow 3 = .ok (.istore 4, 2) := by decide +kernel
theorem dX1_othersDownBelow_5 : decode cX1_othersDownBelow 5 = .ok (.iload 4, 2) := by decide +kernel
theorem dX1_othersDownBelow_7 : decode cX1_othersDownBelow 7 = .ok (.bipush 7, 2) := by decide +kernel
theorem dX1_othersDownBelow_9 : decode cX1_othersDownBelow 9 = .ok (.if_icmp .ge 49, 3) := by decide +kernel
theorem dX1_othersDownBelow_12 : decode cX1_othersDownBelow 12 = .ok (.iload 4, 2) := by decide +kernel
theorem dX1_othersDownBelow_14 : decode cX1_othersDownBelow 14 = .ok (.aload_n 0, 1) := by decide +kernel
theorem dX1_othersDownBelow_15 : decode cX1_othersDownBelow 15 = .ok (.getfield 33, 3) := by decide +kernel
theorem dX1_othersDownBelow_18 : decode cX1_othersDownBelow 18 = .ok (.if_icmp .ge 40, 3) := by decide +kernel
theorem dX1_othersDownBelow_21 : decode cX1_othersDownBelow 21 = .ok (.iload 4, 2) := by decide +kernel
theorem dX1_othersDownBelow_23 : decode cX1_othersDownBelow 23 = .ok (.iload_n 2, 1) := by decide +kernel
theorem dX1_othersDownBelow_24 : decode cX1_othersDownBelow 24 = .ok (.if_icmp .eq 28, 3) := by decide +kernel
theorem dX1_othersDownBelow_27 : decode cX1_othersDownBelow 27 = .ok (.aload_n 0, 1) := by decide +kernel
theorem dX1_othersDownBelow_28 : decode cX1_othersDownBelow 28 = .ok (.getfield 18, 3) := by decide +kernel
theorem dX1_othersDownBelow_31 : decode cX1_othersDownBelow 31 = .ok (.iload 4, 2) := by decide +kernel
theorem dX1_othersDownBelow_33 : decode cX1_othersDownBelow 33 = .ok (.iaload, 1) := by decide +kernel
theorem dX1_othersDownBelow_34 : decode cX1_othersDownBelow 34 = .ok (.iconst 2, 1) := by decide +kernel
theorem dX1_othersDownBelow_35 : decode cX1_othersDownBelow 35 = .ok (.if_icmp .ne 17, 3) := by decide +kernel
theorem dX1_othersDownBelow_38 : decode cX1_othersDownBelow 38 = .ok (.aload_n 0, 1) := by decide +kernel
theorem dX1_othersDownBelow_39 : decode cX1_othersDownBelow 39 = .ok (.getfield 15, 3) := by decide +kernel
theorem dX1_othersDownBelow_42 : decode cX1_othersDownBelow 42 = .ok (.iload 4, 2) := by decide +kernel
theorem dX1_othersDownBelow_44 : decode cX1_othersDownBelow 44 = .ok (.iaload, 1) := by decide +kernel
theorem dX1_othersDownBelow_45 : decode cX1_othersDownBelow 45 = .ok (.iload_n 1, 1) := by decide +kernel
theorem dX1_othersDownBelow_46 : decode cX1_othersDownBelow 46 = .ok (.if_icmp .ge 6, 3) := by decide +kernel
theorem dX1_othersDownBelow_49 : decode cX1_othersDownBelow 49 = .ok (.iinc 3 1, 3) := by decide +kernel
theorem dX1_othersDownBelow_52 : decode cX1_othersDownBelow 52 = .ok (.iinc 4 1, 3) := by decide +kernel
theorem dX1_othersDownBelow_55 : decode cX1_othersDownBelow 55 = .ok (.goto (-50), 3) := by decide +kernel
theorem dX1_othersDownBelow_58 : decode cX1_othersDownBelow 58 = .ok (.iload_n 3, 1) := by decide +kernel
theorem dX1_othersDownBelow_59 : decode cX1_othersDownBelow 59 = .ok (.ireturn, 1) := by decide +kernel
theorem dX1_highest_0 : decode cX1_highest 0 = .ok (.iconst 0, 1) := by decide +kernel
theorem dX1_highest_1 : decode cX1_highest 1 = .ok (.istore_n 1, 1) := by decide +kernel
theorem dX1_highest_2 : decode cX1_highest 2 = .ok (.iconst 0, 1) := by decide +kernel
theorem dX1_highest_3 : decode cX1_highest 3 = .ok (.istore_n 2, 1) := by decide +kernel
theorem dX1_highest_4 : decode cX1_highest 4 = .ok (.iload_n 2, 1) := by decide +kernel
theorem dX1_highest_5 : decode cX1_highest 5 = .ok (.bipush 7, 2) := by decide +kernel
theorem dX1_highest_7 : decode cX1_highest 7 = .ok (.if_icmp .ge 28, 3) := by decide +kernel
theorem dX1_highest_10 : decode cX1_highest 10 = .ok (.iload_n 2, 1) := by decide +kernel
theorem dX1_highest_11 : decode cX1_highest 11 = .ok (.aload_n 0, 1) := by decide +kernel
theorem dX1_highest_12 : decode cX1_highest 12 = .ok (.getfield 33, 3) := by decide +kernel
theorem dX1_highest_15 : decode cX1_highest 15 = .ok (.if_icmp .ge 20, 3) := by decide +kernel
theorem dX1_highest_18 : decode cX1_highest 18 = .ok (.iload_n 1, 1) := by decide +kernel
theorem dX1_highest_19 : decode cX1_highest 19 = .ok (.aload_n 0, 1) := by decide +kernel
theorem dX1_highest_20 : decode cX1_highest 20 = .ok (.getfield 15, 3) := by decide +kernel
theorem dX1_highest_23 : decode cX1_highest 23 = .ok (.iload_n 2, 1) := by decide +kernel
theorem dX1_highest_24 : decode cX1_highest 24 = .ok (.iaload, 1) := by decide +kernel
theorem dX1_highest_25 : decode cX1_highest 25 = .ok (.invokestatic 80, 3) := by decide +kernel
theorem dX1_highest_28 : decode cX1_highest 28 = .ok (.istore_n 1, 1) := by decide +kernel
theorem dX1_highest_29 : decode cX1_highest 29 = .ok (.iinc 2 1, 3) := by decide +kernel
theorem dX1_highest_32 : decode cX1_highest 32 = .ok (.goto (-28), 3) := by decide +kernel
theorem dX1_highest_35 : decode cX1_highest 35 = .ok (.iload_n 1, 1) := by decide +kernel
theorem dX1_highest_36 : decode cX1_highest 36 = .ok (.ireturn, 1) := by decide +kernel
theorem dX1_bitsOnWay_0 : decode cX1_bitsOnWay 0 = .ok (.iconst 0, 1) := by decide +kernel
theorem dX1_bitsOnWay_1 : decode cX1_bitsOnWay 1 = .ok (.istore_n 1, 1) := by decide +kernel
theorem dX1_bitsOnWay_2 : decode cX1_bitsOnWay 2 = .ok (.iconst 0, 1) := by decide +kernel
theorem dX1_bitsOnWay_3 : decode cX1_bitsOnWay 3 = .ok (.istore_n 2, 1) := by decide +kernel
theorem dX1_bitsOnWay_4 : decode cX1_bitsOnWay 4 = .ok (.iload_n 2, 1) := by decide +kernel
theorem dX1_bitsOnWay_5 : decode cX1_bitsOnWay 5 = .ok (.bipush 7, 2) := by decide +kernel
theorem dX1_bitsOnWay_7 : decode cX1_bitsOnWay 7 = .ok (.if_icmp .ge 32, 3) := by decide +kernel
theorem dX1_bitsOnWay_10 : decode cX1_bitsOnWay 10 = .ok (.iload_n 2, 1) := by decide +kernel
theorem dX1_bitsOnWay_11 : decode cX1_bitsOnWay 11 = .ok (.aload_n 0, 1) := by decide +kernel
theorem dX1_bitsOnWay_12 : decode cX1_bitsOnWay 12 = .ok (.getfield 33, 3) := by decide +kernel
theorem dX1_bitsOnWay_15 : decode cX1_bitsOnWay 15 = .ok (.if_icmp .ge 24, 3) := by decide +kernel
theorem dX1_bitsOnWay_18 : decode cX1_bitsOnWay 18 = .ok (.aload_n 0, 1) := by decide +kernel
theorem dX1_bitsOnWay_19 : decode cX1_bitsOnWay 19 = .ok (.getfield 18, 3) := by decide +kernel
theorem dX1_bitsOnWay_22 : decode cX1_bitsOnWay 22 = .ok (.iload_n 2, 1) := by decide +kernel
theorem dX1_bitsOnWay_23 : decode cX1_bitsOnWay 23 = .ok (.iaload, 1) := by decide +kernel
theorem dX1_bitsOnWay_24 : decode cX1_bitsOnWay 24 = .ok (.ifCond .eq 9, 3) := by decide +kernel
theorem dX1_bitsOnWay_27 : decode cX1_bitsOnWay 27 = .ok (.iload_n 1, 1) := by decide +kernel
theorem dX1_bitsOnWay_28 : decode cX1_bitsOnWay 28 = .ok (.iconst 1, 1) := by decide +kernel
theorem dX1_bitsOnWay_29 : decode cX1_bitsOnWay 29 = .ok (.iload_n 2, 1) := by decide +kernel
theorem dX1_bitsOnWay_30 : decode cX1_bitsOnWay 30 = .ok (.ishl, 1) := by decide +kernel
theorem dX1_bitsOnWay_31 : decode cX1_bitsOnWay 31 = .ok (.ior, 1) := by decide +kernel
theorem dX1_bitsOnWay_32 : decode cX1_bitsOnWay 32 = .ok (.istore_n 1, 1) := by decide +kernel
theorem dX1_bitsOnWay_33 : decode cX1_bitsOnWay 33 = .ok (.iinc 2 1, 3) := by decide +kernel
theorem dX1_bitsOnWay_36 : decode cX1_bitsOnWay 36 = .ok (.goto (-32), 3) := by decide +kernel
theorem dX1_bitsOnWay_39 : decode cX1_bitsOnWay 39 = .ok (.iload_n 1, 1) := by decide +kernel
theorem dX1_bitsOnWay_40 : decode cX1_bitsOnWay 40 = .ok (.ireturn, 1) := by decide +kernel
theorem dX1_bitsWaiting_0 : decode cX1_bitsWaiting 0 = .ok (.iconst 0, 1) := by decide +kernel
theorem dX1_bitsWaiting_1 : decode cX1_bitsWaiting 1 = .ok (.istore_n 1, 1) := by decide +kernel
theorem dX1_bitsWaiting_2 : decode cX1_bitsWaiting 2 = .ok (.iconst 0, 1) := by decide +kernel
theorem dX1_bitsWaiting_3 : decode cX1_bitsWaiting 3 = .ok (.istore_n 2, 1) := by decide +kernel
theorem dX1_bitsWaiting_4 : decode cX1_bitsWaiting 4 = .ok (.iload_n 2, 1) := by decide +kernel
theorem dX1_bitsWaiting_5 : decode cX1_bitsWaiting 5 = .ok (.bipush 7, 2) := by decide +kernel
theorem dX1_bitsWaiting_7 : decode cX1_bitsWaiting 7 = .ok (.if_icmp .ge 32, 3) := by decide +kernel
theorem dX1_bitsWaiting_10 : decode cX1_bitsWaiting 10 = .ok (.iload_n 2, 1) := by decide +kernel
theorem dX1_bitsWaiting_11 : decode cX1_bitsWaiting 11 = .ok (.aload_n 0, 1) := by decide +kernel
theorem dX1_bitsWaiting_12 : decode cX1_bitsWaiting 12 = .ok (.getfield 33, 3) := by decide +kernel
theorem dX1_bitsWaiting_15 : decode cX1_bitsWaiting 15 = .ok (.if_icmp .ge 24, 3) := by decide +kernel
theorem dX1_bitsWaiting_18 : decode cX1_bitsWaiting 18 = .ok (.aload_n 0, 1) := by decide +kernel
theorem dX1_bitsWaiting_19 : decode cX1_bitsWaiting 19 = .ok (.getfield 21, 3) := by decide +kernel
theorem dX1_bitsWaiting_22 : decode cX1_bitsWaiting 22 = .ok (.iload_n 2, 1) := by decide +kernel
theorem dX1_bitsWaiting_23 : decode cX1_bitsWaiting 23 = .ok (.iaload, 1) := by decide +kernel
theorem dX1_bitsWaiting_24 : decode cX1_bitsWaiting 24 = .ok (.ifCond .le 9, 3) := by decide +kernel
theorem dX1_bitsWaiting_27 : decode cX1_bitsWaiting 27 = .ok (.iload_n 1, 1) := by decide +kernel
theorem dX1_bitsWaiting_28 : decode cX1_bitsWaiting 28 = .ok (.iconst 1, 1) := by decide +kernel
theorem dX1_bitsWaiting_29 : decode cX1_bitsWaiting 29 = .ok (.iload_n 2, 1) := by decide +kernel
theorem dX1_bitsWaiting_30 : decode cX1_bitsWaiting 30 = .ok (.ishl, 1) := by decide +kernel
theorem dX1_bitsWaiting_31 : decode cX1_bitsWaiting 31 = .ok (.ior, 1) := by decide +kernel
theorem dX1_bitsWaiting_32 : decode cX1_bitsWaiting 32 = .ok (.istore_n 1, 1) := by decide +kernel
theorem dX1_bitsWaiting_33 : decode cX1_bitsWaiting 33 = .ok (.iinc 2 1, 3) := by decide +kernel
theorem dX1_bitsWaiting_36 : decode cX1_bitsWaiting 36 = .ok (.goto (-32), 3) := by decide +kernel
theorem dX1_bitsWaiting_39 : decode cX1_bitsWaiting 39 = .ok (.iload_n 1, 1) := by decide +kernel
theorem dX1_bitsWaiting_40 : decode cX1_bitsWaiting 40 = .ok (.ireturn, 1) := by decide +kernel
theorem dX1_allBits_0 : decode cX1_allBits 0 = .ok (.aload_n 0, 1) := by decide +kernel
theorem dX1_allBits_1 : decode cX1_allBits 1 = .ok (.getfield 33, 3) := by decide +kernel
theorem dX1_allBits_4 : decode cX1_allBits 4 = .ok (.ifCond .lt 23, 3) := by decide +kernel
theorem dX1_allBits_7 : decode cX1_allBits 7 = .ok (.aload_n 0, 1) := by decide +kernel
theorem dX1_allBits_8 : decode cX1_allBits 8 = .ok (.getfield 33, 3) := by decide +kernel
theorem dX1_allBits_11 : decode cX1_allBits 11 = .ok (.bipush 7, 2) := by decide +kernel
theorem dX1_allBits_13 : decode cX1_allBits 13 = .ok (.if_icmp .gt 14, 3) := by decide +kernel
theorem dX1_allBits_16 : decode cX1_allBits 16 = .ok (.iconst 1, 1) := by decide +kernel
theorem dX1_allBits_17 : decode cX1_allBits 17 = .ok (.aload_n 0, 1) := by decide +kernel
theorem dX1_allBits_18 : decode cX1_allBits 18 = .ok (.getfield 33, 3) := by decide +kernel
theorem dX1_allBits_21 : decode cX1_allBits 21 = .ok (.ishl, 1) := by decide +kernel
theorem dX1_allBits_22 : decode cX1_allBits 22 = .ok (.iconst 1, 1) := by decide +kernel
theorem dX1_allBits_23 : decode cX1_allBits 23 = .ok (.isub, 1) := by decide +kernel
theorem dX1_allBits_24 : decode cX1_allBits 24 = .ok (.goto 4, 3) := by decide +kernel
theorem dX1_allBits_27 : decode cX1_allBits 27 = .ok (.iconst 0, 1) := by decide +kernel
theorem dX1_allBits_28 : decode cX1_allBits 28 = .ok (.ireturn, 1) := by decide +kernel
theorem dX1_howManyOnWay_0 : decode cX1_howManyOnWay 0 = .ok (.aload_n 0, 1) := by decide +kernel
theorem dX1_howManyOnWay_1 : decode cX1_howManyOnWay 1 = .ok (.invokevirtual 115, 3) := by decide +kernel
theorem dX1_howManyOnWay_4 : decode cX1_howManyOnWay 4 = .ok (.invokestatic 87, 3) := by decide +kernel
theorem dX1_howManyOnWay_7 : decode cX1_howManyOnWay 7 = .ok (.ireturn, 1) := by decide +kernel
theorem dX1_sumOf_0 : decode cX1_sumOf 0 = .ok (.iconst 0, 1) := by decide +kernel
theorem dX1_sumOf_1 : decode cX1_sumOf 1 = .ok (.istore_n 2, 1) := by decide +kernel
theorem dX1_sumOf_2 : decode cX1_sumOf 2 = .ok (.iconst 0, 1) := by decide +kernel
theorem dX1_sumOf_3 : decode cX1_sumOf 3 = .ok (.istore_n 3, 1) := by decide +kernel
theorem dX1_sumOf_4 : decode cX1_sumOf 4 = .ok (.iload_n 3, 1) := by decide +kernel
theorem dX1_sumOf_5 : decode cX1_sumOf 5 = .ok (.aload_n 0, 1) := by decide +kernel
theorem dX1_sumOf_6 : decode cX1_sumOf 6 = .ok (.getfield 33, 3) := by decide +kernel
theorem dX1_sumOf_9 : decode cX1_sumOf 9 = .ok (.if_icmp .ge 21, 3) := by decide +kernel
theorem dX1_sumOf_12 : decode cX1_sumOf 12 = .ok (.iload_n 3, 1) := by decide +kernel
theorem dX1_sumOf_13 : decode cX1_sumOf 13 = .ok (.aload_n 1, 1) := by decide +kernel
theorem dX1_sumOf_14 : decode cX1_sumOf 14 = .ok (.arraylength, 1) := by decide +kernel
theorem dX1_sumOf_15 : decode cX1_sumOf 15 = .ok (.if_icmp .ge 15, 3) := by decide +kernel
theorem dX1_sumOf_18 : decode cX1_sumOf 18 = .ok (.iload_n 2, 1) := by decide +kernel
theorem dX1_sumOf_19 : decode cX1_sumOf 19 = .ok (.aload_n 1, 1) := by decide +kernel
theorem dX1_sumOf_20 : decode cX1_sumOf 20 = .ok (.iload_n 3, 1) := by decide +kernel
theorem dX1_sumOf_21 : decode cX1_sumOf 21 = .ok (.iaload, 1) := by decide +kernel
theorem dX1_sumOf_22 : decode cX1_sumOf 22 = .ok (.iadd, 1) := by decide +kernel
theorem dX1_sumOf_23 : decode cX1_sumOf 23 = .ok (.istore_n 2, 1) := by decide +kernel
theorem dX1_sumOf_24 : decode cX1_sumOf 24 = .ok (.iinc 3 1, 3) := by decide +kernel
theorem dX1_sumOf_27 : decode cX1_sumOf 27 = .ok (.goto (-23), 3) := by decide +kernel
theorem dX1_sumOf_30 : decode cX1_sumOf 30 = .ok (.iload_n 2, 1) := by decide +kernel
theorem dX1_sumOf_31 : decode cX1_sumOf 31 = .ok (.ireturn, 1) := by decide +kernel
theorem dX1_sumOfSet_0 : decode cX1_sumOfSet 0 = .ok (.iconst 0, 1) := by decide +kernel
theorem dX1_sumOfSet_1 : decode cX1_sumOfSet 1 = .ok (.istore_n 3, 1) := by decide +kernel
theorem dX1_sumOfSet_2 : decode cX1_sumOfSet 2 = .ok (.iconst 0, 1) := by decide +kernel
theorem dX1_sumOfSet_3 : decode cX1_sumOfSet 3 = .ok (.istore 4, 2) := by decide +kernel
theorem dX1_sumOfSet_5 : decode cX1_sumOfSet 5 = .ok (.iload 4, 2) := by decide +kernel
theorem dX1_sumOfSet_7 : decode cX1_sumOfSet 7 = .ok (.aload_n 0, 1) := by decide +kernel
theorem dX1_sumOfSet_8 : decode cX1_sumOfSet 8 = .ok (.getfield 33, 3) := by decide +kernel
theorem dX1_sumOfSet_11 : decode cX1_sumOfSet 11 = .ok (.if_icmp .ge 33, 3) := by decide +kernel
theorem dX1_sumOfSet_14 : decode cX1_sumOfSet 14 = .ok (.iload 4, 2) := by decide +kernel
theorem dX1_sumOfSet_16 : decode cX1_sumOfSet 16 = .ok (.aload_n 1, 1) := by decide +kernel
theorem dX1_sumOfSet_17 : decode cX1_sumOfSet 17 = .ok (.arraylength, 1) := by decide +kernel
theorem dX1_sumOfSet_18 : decode cX1_sumOfSet 18 = .ok (.if_icmp .ge 26, 3) := by decide +kernel
theorem dX1_sumOfSet_21 : decode cX1_sumOfSet 21 = .ok (.iload_n 2, 1) := by decide +kernel
theorem dX1_sumOfSet_22 : decode cX1_sumOfSet 22 = .ok (.iload 4, 2) := by decide +kernel
theorem dX1_sumOfSet_24 : decode cX1_sumOfSet 24 = .ok (.ishr, 1) := by decide +kernel
theorem dX1_sumOfSet_25 : decode cX1_sumOfSet 25 = .ok (.iconst 1, 1) := by decide +kernel
theorem dX1_sumOfSet_26 : decode cX1_sumOfSet 26 = .ok (.iand, 1) := by decide +kernel
theorem dX1_sumOfSet_27 : decode cX1_sumOfSet 27 = .ok (.iconst 1, 1) := by decide +kernel
theorem dX1_sumOfSet_28 : decode cX1_sumOfSet 28 = .ok (.if_icmp .ne 10, 3) := by decide +kernel
theorem dX1_sumOfSet_31 : decode cX1_sumOfSet 31 = .ok (.iload_n 3, 1) := by decide +kernel
theorem dX1_sumOfSet_32 : decode cX1_sumOfSet 32 = .ok (.aload_n 1, 1) := by decide +kernel
theorem dX1_sumOfSet_33 : decode cX1_sumOfSet 33 = .ok (.iload 4, 2) := by decide +kernel
theorem dX1_sumOfSet_35 : decode cX1_sumOfSet 35 = .ok (.iaload, 1) := by decide +kernel
theorem dX1_sumOfSet_36 : decode cX1_sumOfSet 36 = .ok (.iadd, 1) := by decide +kernel
theorem dX1_sumOfSet_37 : decode cX1_sumOfSet 37 = .ok (.istore_n 3, 1) := by decide +kernel
theorem dX1_sumOfSet_38 : decode cX1_sumOfSet 38 = .ok (.iinc 4 1, 3) := by decide +kernel
theorem dX1_sumOfSet_41 : decode cX1_sumOfSet 41 = .ok (.goto (-36), 3) := by decide +kernel
theorem dX1_sumOfSet_44 : decode cX1_sumOfSet 44 = .ok (.iload_n 3, 1) := by decide +kernel
theorem dX1_sumOfSet_45 : decode cX1_sumOfSet 45 = .ok (.ireturn, 1) := by decide +kernel
theorem dX2_init_0 : decode cX2_init 0 = .ok (.aload_n 0, 1) := by decide +kernel
theorem dX2_init_1 : decode cX2_init 1 = .ok (.invokespecial 1, 3) := by decide +kernel
theorem dX2_init_4 : decode cX2_init 4 = .ok (.aload_n 0, 1) := by decide +kernel
theorem dX2_init_5 : decode cX2_init 5 = .ok (.bipush 12, 2) := by decide +kernel
theorem dX2_init_7 : decode cX2_init 7 = .ok (.newarray .long, 2) := by decide +kernel
theorem dX2_init_9 : decode cX2_init 9 = .ok (.putfield 9, 3) := by decide +kernel
theorem dX2_init_12 : decode cX2_init 12 = .ok (.aload_n 0, 1) := by decide +kernel
theorem dX2_init_13 : decode cX2_init 13 = .ok (.iconst 0, 1) := by decide +kernel
theorem dX2_init_14 : decode cX2_init 14 = .ok (.putfield 13, 3) := by decide +kernel
theorem dX2_init_17 : decode cX2_init 17 = .ok (.return_, 1) := by decide +kernel
theorem dX2_has_0 : decode cX2_has 0 = .ok (.iload_n 1, 1) := by decide +kernel
theorem dX2_has_1 : decode cX2_has 1 = .ok (.ifCond .lt 21, 3) := by decide +kernel
theorem dX2_has_4 : decode cX2_has 4 = .ok (.iload_n 1, 1) := by decide +kernel
theorem dX2_has_5 : decode cX2_has 5 = .ok (.aload_n 0, 1) := by decide +kernel
theorem dX2_has_6 : decode cX2_has 6 = .ok (.getfield 13, 3) := by decide +kernel
theorem dX2_has_9 : decode cX2_has 9 = .ok (.if_icmp .ge 13, 3) := by decide +kernel
theorem dX2_has_12 : decode cX2_has 12 = .ok (.iload_n 1, 1) := by decide +kernel
theorem dX2_has_13 : decode cX2_has 13 = .ok (.bipush 12, 2) := by decide +kernel
theorem dX2_has_15 : decode cX2_has 15 = .ok (.if_icmp .ge 7, 3) := by decide +kernel
theorem dX2_has_18 : decode cX2_has 18 = .ok (.iconst 1, 1) := by decide +kernel
theorem dX2_has_19 : decode cX2_has 19 = .ok (.goto 4, 3) := by decide +kernel
theorem dX2_has_22 : decode cX2_has 22 = .ok (.iconst 0, 1) := by decide +kernel
theorem dX2_has_23 : decode cX2_has 23 = .ok (.ireturn, 1) := by decide +kernel
theorem dX2_clear_0 : decode cX2_clear 0 = .ok (.aload_n 0, 1) := by decide +kernel
theorem dX2_clear_1 : decode cX2_clear 1 = .ok (.iconst 0, 1) := by decide +kernel
theorem dX2_clear_2 : decode cX2_clear 2 = .ok (.putfield 13, 3) := by decide +kernel
theorem dX2_clear_5 : decode cX2_clear 5 = .ok (.return_, 1) := by decide +kernel
theorem dX2_add_0 : decode cX2_add 0 = .ok (.aload_n 0, 1) := by decide +kernel
theorem dX2_add_1 : decode cX2_add 1 = .ok (.getfield 13, 3) := by decide +kernel
theorem dX2_add_4 : decode cX2_add 4 = .ok (.ifCond .lt 32, 3) := by decide +kernel
theorem dX2_add_7 : decode cX2_add 7 = .ok (.aload_n 0, 1) := by decide +kernel
theorem dX2_add_8 : decode cX2_add 8 = .ok (.getfield 13, 3) := by decide +kernel
theorem dX2_add_11 : decode cX2_add 11 = .ok (.bipush 12, 2) := by decide +kernel
theorem dX2_add_13 : decode cX2_add 13 = .ok (.if_icmp .ge 23, 3) := by decide +kernel
theorem dX2_add_16 : decode cX2_add 16 = .ok (.aload_n 0, 1) := by decide +kernel
theorem dX2_add_17 : decode cX2_add 17 = .ok (.getfield 9, 3) := by decide +kernel
theorem dX2_add_20 : decode cX2_add 20 = .ok (.aload_n 0, 1) := by decide +kernel
theorem dX2_add_21 : decode cX2_add 21 = .ok (.getfield 13, 3) := by decide +kernel
theorem dX2_add_24 : decode cX2_add 24 = .ok (.lload_n 1, 1) := by decide +kernel
theorem dX2_add_25 : decode cX2_add 25 = .ok (.lastore, 1) := by decide +kernel
theorem dX2_add_26 : decode cX2_add 26 = .ok (.aload_n 0, 1) := by decide +kernel
theorem dX2_add_27 : decode cX2_add 27 = .ok (.dup, 1) := by decide +kernel
theorem dX2_add_28 : decode cX2_add 28 = .ok (.getfield 13, 3) := by decide +kernel
theorem dX2_add_31 : decode cX2_add 31 = .ok (.iconst 1, 1) := by decide +kernel
theorem dX2_add_32 : decode cX2_add 32 = .ok (.iadd, 1) := by decide +kernel
theorem dX2_add_33 : decode cX2_add 33 = .ok (.putfield 13, 3) := by decide +kernel
theorem dX2_add_36 : decode cX2_add 36 = .ok (.return_, 1) := by decide +kernel
theorem dX2_tellOne_0 : decode cX2_tellOne 0 = .ok (.aload_n 0, 1) := by decide +kernel
theorem dX2_tellOne_1 : decode cX2_tellOne 1 = .ok (.invokevirtual 17, 3) := by decide +kernel
theorem dX2_tellOne_4 : decode cX2_tellOne 4 = .ok (.aload_n 0, 1) := by decide +kernel
theorem dX2_tellOne_5 : decode cX2_tellOne 5 = .ok (.lload_n 1, 1) := by decide +kernel
theorem dX2_tellOne_6 : decode cX2_tellOne 6 = .ok (.invokevirtual 20, 3) := by decide +kernel
theorem dX2_tellOne_9 : decode cX2_tellOne 9 = .ok (.return_, 1) := by decide +kernel
theorem dX2_tellTwo_0 : decode cX2_tellTwo 0 = .ok (.aload_n 0, 1) := by decide +kernel
theorem dX2_tellTwo_1 : decode cX2_tellTwo 1 = .ok (.lload_n 1, 1) := by decide +kernel
theorem dX2_tellTwo_2 : decode cX2_tellTwo 2 = .ok (.invokevirtual 24, 3) := by decide +kernel
theorem dX2_tellTwo_5 : decode cX2_tellTwo 5 = .ok (.aload_n 0, 1) := by decide +kernel
theorem dX2_tellTwo_6 : decode cX2_tellTwo 6 = .ok (.lload_n 3, 1) := by decide +kernel
theorem dX2_tellTwo_7 : decode cX2_tellTwo 7 = .ok (.invokevirtual 20, 3) := by decide +kernel
theorem dX2_tellTwo_10 : decode cX2_tellTwo 10 = .ok (.return_, 1) := by decide +kernel
theorem dX2_tellEach_0 : decode cX2_tellEach 0 = .ok (.aload_n 0, 1) := by decide +kernel
theorem dX2_tellEach_1 : decode cX2_tellEach 1 = .ok (.invokevirtual 17, 3) := by decide +kernel
theorem dX2_tellEach_4 : decode cX2_tellEach 4 = .ok (.iconst 0, 1) := by decide +kernel
theorem dX2_tellEach_5 : decode cX2_tellEach 5 = .ok (.istore_n 3, 1) := by decide +kernel
theorem dX2_tellEach_6 : decode cX2_tellEach 6 = .ok (.iload_n 3, 1) := by decide +kernel
theorem dX2_tellEach_7 : decode cX2_tellEach 7 = .ok (.iload_n 2, 1) := by decide +kernel
theorem dX2_tellEach_8 : decode cX2_tellEach 8 = .ok (.if_icmp .ge 23, 3) := by decide +kernel
theorem dX2_tellEach_11 : decode cX2_tellEach 11 = .ok (.iload_n 3, 1) := by decide +kernel
theorem dX2_tellEach_12 : decode cX2_tellEach 12 = .ok (.aload_n 1, 1) := by decide +kernel
theorem dX2_tellEach_13 : decode cX2_tellEach 13 = .ok (.arraylength, 1) := by decide +kernel
theorem dX2_tellEach_14 : decode cX2_tellEach 14 = .ok (.if_icmp .ge 17, 3) := by decide +kernel
theorem dX2_tellEach_17 : decode cX2_tellEach 17 = .ok (.aload_n 0, 1) := by decide +kernel
theorem dX2_tellEach_18 : decode cX2_tellEach 18 = .ok (.aload_n 1, 1) := by decide +kernel
theorem dX2_tellEach_19 : decode cX2_tellEach 19 = .ok (.iload_n 3, 1) := by decide +kernel
theorem dX2_tellEach_20 : decode cX2_tellEach 20 = .ok (.iaload, 1) := by decide +kernel
theorem dX2_tellEach_21 : decode cX2_tellEach 21 = .ok (.i2l, 1) := by decide +kernel
theorem dX2_tellEach_22 : decode cX2_tellEach 22 = .ok (.invokevirtual 20, 3) := by decide +kernel
theorem dX2_tellEach_25 : decode cX2_tellEach 25 = .ok (.iinc 3 1, 3) := by decide +kernel
theorem dX2_tellEach_28 : decode cX2_tellEach 28 = .ok (.goto (-22), 3) := by decide +kernel
theorem dX2_tellEach_31 : decode cX2_tellEach 31 = .ok (.return_, 1) := by decide +kernel
theorem dX3_init_0 : decode cX3_init 0 = .ok (.aload_n 0, 1) := by decide +kernel
theorem dX3_init_1 : decode cX3_init 1 = .ok (.invokespecial 3, 3) := by decide +kernel
theorem dX3_init_4 : decode cX3_init 4 = .ok (.aload_n 0, 1) := by decide +kernel
theorem dX3_init_5 : decode cX3_init 5 = .ok (.new 9, 3) := by decide +kernel
theorem dX3_init_8 : decode cX3_init 8 = .ok (.dup, 1) := by decide +kernel
theorem dX3_init_9 : decode cX3_init 9 = .ok (.invokespecial 11, 3) := by decide +kernel
theorem dX3_init_12 : decode cX3_init 12 = .ok (.putfield 12, 3) := by decide +kernel
theorem dX3_init_15 : decode cX3_init 15 = .ok (.aload_n 0, 1) := by decide +kernel
theorem dX3_init_16 : decode cX3_init 16 = .ok (.bipush 7, 2) := by decide +kernel
theorem dX3_init_18 : decode cX3_init 18 = .ok (.newarray .int, 2) := by decide +kernel
theorem dX3_init_20 : decode cX3_init 20 = .ok (.putfield 18, 3) := by decide +kernel
theorem dX3_init_23 : decode cX3_init 23 = .ok (.aload_n 0, 1) := by decide +kernel
theorem dX3_init_24 : decode cX3_init 24 = .ok (.bipush 10, 2) := by decide +kernel
theorem dX3_init_26 : decode cX3_init 26 = .ok (.newarray .int, 2) := by decide +kernel
theorem dX3_init_28 : decode cX3_init 28 = .ok (.putfield 22, 3) := by decide +kernel
theorem dX3_init_31 : decode cX3_init 31 = .ok (.aload_n 0, 1) := by decide +kernel
theorem dX3_init_32 : decode cX3_init 32 = .ok (.aload_n 1, 1) := by decide +kernel
theorem dX3_init_33 : decode cX3_init 33 = .ok (.putfield 25, 3) := by decide +kernel
theorem dX3_init_36 : decode cX3_init 36 = .ok (.aload_n 0, 1) := by decide +kernel
theorem dX3_init_37 : decode cX3_init 37 = .ok (.aload_n 2, 1) := by decide +kernel
theorem dX3_init_38 : decode cX3_init 38 = .ok (.putfield 28, 3) := by decide +kernel
theorem dX3_init_41 : decode cX3_init 41 = .ok (.aload_n 0, 1) := by decide +kernel
theorem dX3_init_42 : decode cX3_init 42 = .ok (.aload_n 3, 1) := by decide +kernel
theorem dX3_init_43 : decode cX3_init 43 = .ok (.putfield 32, 3) := by decide +kernel
theorem dX3_init_46 : decode cX3_init 46 = .ok (.return_, 1) := by decide +kernel
theorem dX3_clearEach_0 : decode cX3_clearEach 0 = .ok (.iconst 0, 1) := by decide +kernel
theorem dX3_clearEach_1 : decode cX3_clearEach 1 = .ok (.istore_n 1, 1) := by decide +kernel
theorem dX3_clearEach_2 : decode cX3_clearEach 2 = .ok (.iload_n 1, 1) := by decide +kernel
theorem dX3_clearEach_3 : decode cX3_clearEach 3 = .ok (.bipush 7, 2) := by decide +kernel
theorem dX3_clearEach_5 : decode cX3_clearEach 5 = .ok (.if_icmp .ge 16, 3) := by decide +kernel
theorem dX3_clearEach_8 : decode cX3_clearEach 8 = .ok (.aload_n 0, 1) := by decide +kernel
theorem dX3_clearEach_9 : decode cX3_clearEach 9 = .ok (.getfield 18, 3) := by decide +kernel
theorem dX3_clearEach_12 : decode cX3_clearEach 12 = .ok (.iload_n 1, 1) := by decide +kernel
theorem dX3_clearEach_13 : decode cX3_clearEach 13 = .ok (.iconst 0, 1) := by decide +kernel
theorem dX3_clearEach_14 : decode cX3_clearEach 14 = .ok (.iastore, 1) := by decide +kernel
theorem dX3_clearEach_15 : decode cX3_clearEach 15 = .ok (.iinc 1 1, 3) := by decide +kernel
theorem dX3_clearEach_18 : decode cX3_clearEach 18 = .ok (.goto (-16), 3) := by decide +kernel
theorem dX3_clearEach_21 : decode cX3_clearEach 21 = .ok (.return_, 1) := by decide +kernel
theorem dX3_ownerBehind_0 : decode cX3_ownerBehind 0 = .ok (.aload_n 0, 1) := by decide +kernel
theorem dX3_ownerBehind_1 : decode cX3_ownerBehind 1 = .ok (.getfield 12, 3) := by decide +kernel
theorem dX3_ownerBehind_4 : decode cX3_ownerBehind 4 = .ok (.aload_n 0, 1) := by decide +kernel
theorem dX3_ownerBehind_5 : decode cX3_ownerBehind 5 = .ok (.getfield 25, 3) := by decide +kernel
theorem dX3_ownerBehind_8 : decode cX3_ownerBehind 8 = .ok (.invokevirtual 36, 3) := by decide +kernel
theorem dX3_ownerBehind_11 : decode cX3_ownerBehind 11 = .ok (.aload_n 0, 1) := by decide +kernel
theorem dX3_ownerBehind_12 : decode cX3_ownerBehind 12 = .ok (.getfield 12, 3) := by decide +kernel
theorem dX3_ownerBehind_15 : decode cX3_ownerBehind 15 = .ok (.aload_n 0, 1) := by decide +kernel
theorem dX3_ownerBehind_16 : decode cX3_ownerBehind 16 = .ok (.getfield 28, 3) := by decide +kernel
theorem dX3_ownerBehind_19 : decode cX3_ownerBehind 19 = .ok (.iload_n 1, 1) := by decide +kernel
theorem dX3_ownerBehind_20 : decode cX3_ownerBehind 20 = .ok (.invokevirtual 40, 3) := by decide +kernel
theorem dX3_ownerBehind_23 : decode cX3_ownerBehind 23 = .ok (.istore_n 2, 1) := by decide +kernel
theorem dX3_ownerBehind_24 : decode cX3_ownerBehind 24 = .ok (.aload_n 0, 1) := by decide +kernel
theorem dX3_ownerBehind_25 : decode cX3_ownerBehind 25 = .ok (.getfield 32, 3) := by decide +kernel
theorem dX3_ownerBehind_28 : decode cX3_ownerBehind 28 = .ok (.iload_n 2, 1) := by decide +kernel
theorem dX3_ownerBehind_29 : decode cX3_ownerBehind 29 = .ok (.i2l, 1) := by decide +kernel
theorem dX3_ownerBehind_30 : decode cX3_ownerBehind 30 = .ok (.aload_n 0, 1) := by decide +kernel
theorem dX3_ownerBehind_31 : decode cX3_ownerBehind 31 = .ok (.getfield 12, 3) := by decide +kernel
theorem dX3_ownerBehind_34 : decode cX3_ownerBehind 34 = .ok (.invokevirtual 44, 3) := by decide +kernel
theorem dX3_ownerBehind_37 : decode cX3_ownerBehind 37 = .ok (.i2l, 1) := by decide +kernel
theorem dX3_ownerBehind_38 : decode cX3_ownerBehind 38 = .ok (.invokevirtual 48, 3) := by decide +kernel
theorem dX3_ownerBehind_41 : decode cX3_ownerBehind 41 = .ok (.aload_n 0, 1) := by decide +kernel
theorem dX3_ownerBehind_42 : decode cX3_ownerBehind 42 = .ok (.getfield 12, 3) := by decide +kernel
theorem dX3_ownerBehind_45 : decode cX3_ownerBehind 45 = .ok (.getfield 54, 3) := by decide +kernel
theorem dX3_ownerBehind_48 : decode cX3_ownerBehind 48 = .ok (.ireturn, 1) := by decide +kernel
theorem dX3_firstOwned_0 : decode cX3_firstOwned 0 = .ok (.aload_n 0, 1) := by decide +kernel
theorem dX3_firstOwned_1 : decode cX3_firstOwned 1 = .ok (.getfield 12, 3) := by decide +kernel
theorem dX3_firstOwned_4 : decode cX3_firstOwned 4 = .ok (.aload_n 0, 1) := by decide +kernel
theorem dX3_firstOwned_5 : decode cX3_firstOwned 5 = .ok (.getfield 25, 3) := by decide +kernel
theorem dX3_firstOwned_8 : decode cX3_firstOwned 8 = .ok (.invokevirtual 36, 3) := by decide +kernel
theorem dX3_firstOwned_11 : decode cX3_firstOwned 11 = .ok (.bipush (-2), 2) := by decide +kernel
theorem dX3_firstOwned_13 : decode cX3_firstOwned 13 = .ok (.istore_n 2, 1) := by decide +kernel
theorem dX3_firstOwned_14 : decode cX3_firstOwned 14 = .ok (.iconst 0, 1) := by decide +kernel
theorem dX3_firstOwned_15 : decode cX3_firstOwned 15 = .ok (.istore_n 3, 1) := by decide +kernel
theorem dX3_firstOwned_16 : decode cX3_firstOwned 16 = .ok (.iconst 0, 1) := by decide +kernel
theorem dX3_firstOwned_17 : decode cX3_firstOwned 17 = .ok (.istore 4, 2) := by decide +kernel
theorem dX3_firstOwned_19 : decode cX3_firstOwned 19 = .ok (.iload 4, 2) := by decide +kernel
theorem dX3_firstOwned_21 : decode cX3_firstOwned 21 = .ok (.bipush 99, 2) := by decide +kernel
theorem dX3_firstOwned_23 : decode cX3_firstOwned 23 = .ok (.if_icmp .gt 50, 3) := by decide +kernel
theorem dX3_firstOwned_26 : decode cX3_firstOwned 26 = .ok (.iload 4, 2) := by decide +kernel
theorem dX3_firstOwned_28 : decode cX3_firstOwned 28 = .ok (.ifCond .le 14, 3) := by decide +kernel
theorem dX3_firstOwned_31 : decode cX3_firstOwned 31 = .ok (.aload_n 0, 1) := by decide +kernel
theorem dX3_firstOwned_32 : decode cX3_firstOwned 32 = .ok (.getfield 12, 3) := by decide +kernel
theorem dX3_firstOwned_35 : decode cX3_firstOwned 35 = .ok (.aload_n 0, 1) := by decide +kernel
theorem dX3_firstOwned_36 : decode cX3_firstOwned 36 = .ok (.getfield 28, 3) := by decide +kernel
theorem dX3_firstOwned_39 : decode cX3_firstOwned 39 = .ok (.invokevirtual 58, 3) := by decide +kernel
theorem dX3_firstOwned_42 : decode cX3_firstOwned 42 = .ok (.aload_n 0, 1) := by decide +kernel
theorem dX3_firstOwned_43 : decode cX3_firstOwned 43 = .ok (.getfield 12, 3) := by decide +kernel
theorem dX3_firstOwned_46 : decode cX3_firstOwned 46 = .ok (.getfield 54, 3) := by decide +kernel
theorem dX3_firstOwned_49 : decode cX3_firstOwned 49 = .ok (.iload_n 1, 1) := by decide +kernel
theorem dX3_firstOwned_50 : decode cX3_firstOwned 50 = .ok (.if_icmp .ne 17, 3) := by decide +kernel
theorem dX3_firstOwned_53 : decode cX3_firstOwned 53 = .ok (.iload_n 3, 1) := by decide +kernel
theorem dX3_firstOwned_54 : decode cX3_firstOwned 54 = .ok (.ifCond .ne 8, 3) := by decide +kernel
theorem dX3_firstOwned_57 : decode cX3_firstOwned 57 = .ok (.iload 4, 2) := by decide +kernel
theorem dX3_firstOwned_59 : decode cX3_firstOwned 59 = .ok (.goto 4, 3) := by decide +kernel
theorem dX3_firstOwned_62 : decode cX3_firstOwned 62 = .ok (.iload_n 2, 1) := by decide +kernel
theorem dX3_firstOwned_63 : decode cX3_firstOwned 63 = .ok (.istore_n 2, 1) := by decide +kernel
theorem dX3_firstOwned_64 : decode cX3_firstOwned 64 = .ok (.iinc 3 1, 3) := by decide +kernel
theorem dX3_firstOwned_67 : decode cX3_firstOwned 67 = .ok (.iinc 4 1, 3) := by decide +kernel
theorem dX3_firstOwned_70 : decode cX3_firstOwned 70 = .ok (.goto (-51), 3) := by decide +kernel
theorem dX3_firstOwned_73 : decode cX3_firstOwned 73 = .ok (.iload_n 3, 1) := by decide +kernel
theorem dX3_firstOwned_74 : decode cX3_firstOwned 74 = .ok (.ifCond .le 12, 3) := by decide +kernel
theorem dX3_firstOwned_77 : decode cX3_firstOwned 77 = .ok (.aload_n 0, 1) := by decide +kernel
theorem dX3_firstOwned_78 : decode cX3_firstOwned 78 = .ok (.getfield 32, 3) := by decide +kernel
theorem dX3_firstOwned_81 : decode cX3_firstOwned 81 = .ok (.iload_n 3, 1) := by decide +kernel
theorem dX3_firstOwned_82 : decode cX3_firstOwned 82 = .ok (.i2l, 1) := by decide +kernel
theorem dX3_firstOwned_83 : decode cX3_firstOwned 83 = .ok (.invokevirtual 62, 3) := by decide +kernel
theorem dX3_firstOwned_86 : decode cX3_firstOwned 86 = .ok (.iload_n 2, 1) := by decide +kernel
theorem dX3_firstOwned_87 : decode cX3_firstOwned 87 = .ok (.ireturn, 1) := by decide +kernel
theorem dX3_ownedBy_0 : decode cX3_ownedBy 0 = .ok (.aload_n 0, 1) := by decide +kernel
theorem dX3_ownedBy_1 : decode cX3_ownedBy 1 = .ok (.getfield 12, 3) := by decide +kernel
theorem dX3_ownedBy_4 : decode cX3_ownedBy 4 = .ok (.aload_n 0, 1) := by decide +kernel
theorem dX3_ownedBy_5 : decode cX3_ownedBy 5 = .ok (.getfield 25, 3) := by decide +kernel
theorem dX3_ownedBy_8 : decode cX3_ownedBy 8 = .ok (.invokevirtual 36, 3) := by decide +kernel
theorem dX3_ownedBy_11 : decode cX3_ownedBy 11 = .ok (.aload_n 0, 1) := by decide +kernel
theorem dX3_ownedBy_12 : decode cX3_ownedBy 12 = .ok (.invokevirtual 66, 3) := by decide +kernel
theorem dX3_ownedBy_15 : decode cX3_ownedBy 15 = .ok (.iconst 0, 1) := by decide +kernel
theorem dX3_ownedBy_16 : decode cX3_ownedBy 16 = .ok (.istore_n 2, 1) := by decide +kernel
theorem dX3_ownedBy_17 : decode cX3_ownedBy 17 = .ok (.iconst 1, 1) := by decide +kernel
theorem dX3_ownedBy_18 : decode cX3_ownedBy 18 = .ok (.istore_n 3, 1) := by decide +kernel
theorem dX3_ownedBy_19 : decode cX3_ownedBy 19 = .ok (.iload_n 3, 1) := by decide +kernel
theorem dX3_ownedBy_20 : decode cX3_ownedBy 20 = .ok (.iload_n 1, 1) := by decide +kernel
theorem dX3_ownedBy_21 : decode cX3_ownedBy 21 = .ok (.if_icmp .gt 59, 3) := by decide +kernel
theorem dX3_ownedBy_24 : decode cX3_ownedBy 24 = .ok (.aload_n 0, 1) := by decide +kernel
theorem dX3_ownedBy_25 : decode cX3_ownedBy 25 = .ok (.getfield 12, 3) := by decide +kernel
theorem dX3_ownedBy_28 : decode cX3_ownedBy 28 = .ok (.aload_n 0, 1) := by decide +kernel
theorem dX3_ownedBy_29 : decode cX3_ownedBy 29 = .ok (.getfield 28, 3) := by decide +kernel
theorem dX3_ownedBy_32 : decode cX3_ownedBy 32 = .ok (.invokevirtual 58, 3) := by decide +kernel
theorem dX3_ownedBy_35 : decode cX3_ownedBy 35 = .ok (.aload_n 0, 1) := by decide +kernel
theorem dX3_ownedBy_36 : decode cX3_ownedBy 36 = .ok (.getfield 12, 3) := by decide +kernel
theorem dX3_ownedBy_39 : decode cX3_ownedBy 39 = .ok (.aload_n 0, 1) := by decide +kernel
theorem dX3_ownedBy_40 : decode cX3_ownedBy 40 = .ok (.getfield 12, 3) := by decide +kernel
theorem dX3_ownedBy_43 : decode cX3_ownedBy 43 = .ok (.getfield 54, 3) := by decide +kernel
theorem dX3_ownedBy_46 : decode cX3_ownedBy 46 = .ok (.invokevirtual 69, 3) := by decide +kernel
theorem dX3_ownedBy_49 : decode cX3_ownedBy 49 = .ok (.ifCond .eq 22, 3) := by decide +kernel
theorem dX3_ownedBy_52 : decode cX3_ownedBy 52 = .ok (.aload_n 0, 1) := by decide +kernel
theorem dX3_ownedBy_53 : decode cX3_ownedBy 53 = .ok (.getfield 18, 3) := by decide +kernel
theorem dX3_ownedBy_56 : decode cX3_ownedBy 56 = .ok (.aload_n 0, 1) := by decide +kernel
theorem dX3_ownedBy_57 : decode cX3_ownedBy 57 = .ok (.getfield 12, 3) := by decide +kernel
theorem dX3_ownedBy_60 : decode cX3_ownedBy 60 = .ok (.getfield 54, 3) := by decide +kernel
theorem dX3_ownedBy_63 : decode cX3_ownedBy 63 = .ok (.dup2, 1) := by decide +kernel
theorem dX3_ownedBy_64 : decode cX3_ownedBy 64 = .ok (.iaload, 1) := by decide +kernel
theorem dX3_ownedBy_65 : decode cX3_ownedBy 65 = .ok (.iconst 1, 1) := by decide +kernel
theorem dX3_ownedBy_66 : decode cX3_ownedBy 66 = .ok (.iadd, 1) := by decide +kernel
theorem dX3_ownedBy_67 : decode cX3_ownedBy 67 = .ok (.iastore, 1) := by decide +kernel
theorem dX3_ownedBy_68 : decode cX3_ownedBy 68 = .ok (.goto 6, 3) := by decide +kernel
theorem dX3_ownedBy_71 : decode cX3_ownedBy 71 = .ok (.iinc 2 1, 3) := by decide +kernel
theorem dX3_ownedBy_74 : decode cX3_ownedBy 74 = .ok (.iinc 3 1, 3) := by decide +kernel
theorem dX3_ownedBy_77 : decode cX3_ownedBy 77 = .ok (.goto (-58), 3) := by decide +kernel
theorem dX3_ownedBy_80 : decode cX3_ownedBy 80 = .ok (.aload_n 0, 1) := by decide +kernel
theorem dX3_ownedBy_81 : decode cX3_ownedBy 81 = .ok (.getfield 32, 3) := by decide +kernel
theorem dX3_ownedBy_84 : decode cX3_ownedBy 84 = .ok (.aload_n 0, 1) := by decide +kernel
theorem dX3_ownedBy_85 : decode cX3_ownedBy 85 = .ok (.getfield 18, 3) := by decide +kernel
theorem dX3_ownedBy_88 : decode cX3_ownedBy 88 = .ok (.aload_n 0, 1) := by decide +kernel
theorem dX3_ownedBy_89 : decode cX3_ownedBy 89 = .ok (.getfield 25, 3) := by decide +kernel
theorem dX3_ownedBy_92 : decode cX3_ownedBy 92 = .ok (.getfield 73, 3) := by decide +kernel
theorem dX3_ownedBy_95 : decode cX3_ownedBy 95 = .ok (.invokevirtual 76, 3) := by decide +kernel
theorem dX3_ownedBy_98 : decode cX3_ownedBy 98 = .ok (.iload_n 2, 1) := by decide +kernel
theorem dX3_ownedBy_99 : decode cX3_ownedBy 99 = .ok (.ireturn, 1) := by decide +kernel
theorem dX3_downInOrder_0 : decode cX3_downInOrder 0 = .ok (.aload_n 0, 1) := by decide +kernel
theorem dX3_downInOrder_1 : decode cX3_downInOrder 1 = .ok (.getfield 12, 3) := by decide +kernel
theorem dX3_downInOrder_4 : decode cX3_downInOrder 4 = .ok (.aload_n 0, 1) := by decide +kernel
theorem dX3_downInOrder_5 : decode cX3_downInOrder 5 = .ok (.getfield 25, 3) := by decide +kernel
theorem dX3_downInOrder_8 : decode cX3_downInOrder 8 = .ok (.invokevirtual 36, 3) := by decide +kernel
theorem dX3_downInOrder_11 : decode cX3_downInOrder 11 = .ok (.aload_n 0, 1) := by decide +kernel
theorem dX3_downInOrder_12 : decode cX3_downInOrder 12 = .ok (.getfield 32, 3) := by decide +kernel
theorem dX3_downInOrder_15 : decode cX3_downInOrder 15 = .ok (.invokevirtual 80, 3) := by decide +kernel
theorem dX3_downInOrder_18 : decode cX3_downInOrder 18 = .ok (.iconst 0, 1) := by decide +kernel
theorem dX3_downInOrder_19 : decode cX3_downInOrder 19 = .ok (.istore_n 2, 1) := by decide +kernel
theorem dX3_downInOrder_20 : decode cX3_downInOrder 20 = .ok (.iconst 1, 1) := by decide +kernel
theorem dX3_downInOrder_21 : decode cX3_downInOrder 21 = .ok (.istore_n 3, 1) := by decide +kernel
theorem dX3_downInOrder_22 : decode cX3_downInOrder 22 = .ok (.iload_n 3, 1) := by decide +kernel
theorem dX3_downInOrder_23 : decode cX3_downInOrder 23 = .ok (.iload_n 1, 1) := by decide +kernel
theorem dX3_downInOrder_24 : decode cX3_downInOrder 24 = .ok (.if_icmp .gt 65, 3) := by decide +kernel
theorem dX3_downInOrder_27 : decode cX3_downInOrder 27 = .ok (.aload_n 0, 1) := by decide +kernel
theorem dX3_downInOrder_28 : decode cX3_downInOrder 28 = .ok (.getfield 12, 3) := by decide +kernel
theorem dX3_downInOrder_31 : decode cX3_downInOrder 31 = .ok (.aload_n 0, 1) := by decide +kernel
theorem dX3_downInOrder_32 : decode cX3_downInOrder 32 = .ok (.getfield 28, 3) := by decide +kernel
theorem dX3_downInOrder_35 : decode cX3_downInOrder 35 = .ok (.invokevirtual 58, 3) := by decide +kernel
theorem dX3_downInOrder_38 : decode cX3_downInOrder 38 = .ok (.iconst 0, 1) := by decide +kernel
theorem dX3_downInOrder_39 : decode cX3_downInOrder 39 = .ok (.istore 4, 2) := by decide +kernel
theorem dX3_downInOrder_41 : decode cX3_downInOrder 41 = .ok (.iload 4, 2) := by decide +kernel
theorem dX3_downInOrder_43 : decode cX3_downInOrder 43 = .ok (.bipush 7, 2) := by decide +kernel
theorem dX3_downInOrder_45 : decode cX3_downInOrder 45 = .ok (.if_icmp .ge 38, 3) := by decide +kernel
theorem dX3_downInOrder_48 : decode cX3_downInOrder 48 = .ok (.aload_n 0, 1) := by decide +kernel
theorem dX3_downInOrder_49 : decode cX3_downInOrder 49 = .ok (.getfield 12, 3) := by decide +kernel
theorem dX3_downInOrder_52 : decode cX3_downInOrder 52 = .ok (.getfield 83, 3) := by decide +kernel
theorem dX3_downInOrder_55 : decode cX3_downInOrder 55 = .ok (.iload 4, 2) := by decide +kernel
theorem dX3_downInOrder_57 : decode cX3_downInOrder 57 = .ok (.ishr, 1) := by decide +kernel
theorem dX3_downInOrder_58 : decode cX3_downInOrder 58 = .ok (.iconst 1, 1) := by decide +kernel
theorem dX3_downInOrder_59 : decode cX3_downInOrder 59 = .ok (.iand, 1) := by decide +kernel
theorem dX3_downInOrder_60 : decode cX3_downInOrder 60 = .ok (.iconst 1, 1) := by decide +kernel
theorem dX3_downInOrder_61 : decode cX3_downInOrder 61 = .ok (.if_icmp .ne 16, 3) := by decide +kernel
theorem dX3_downInOrder_64 : decode cX3_downInOrder 64 = .ok (.aload_n 0, 1) := by decide +kernel
theorem dX3_downInOrder_65 : decode cX3_downInOrder 65 = .ok (.getfield 32, 3) := by decide +kernel
theorem dX3_downInOrder_68 : decode cX3_downInOrder 68 = .ok (.iload 4, 2) := by decide +kernel
theorem dX3_downInOrder_70 : decode cX3_downInOrder 70 = .ok (.i2l, 1) := by decide +kernel
theorem dX3_downInOrder_71 : decode cX3_downInOrder 71 = .ok (.invokevirtual 86, 3) := by decide +kernel
theorem dX3_downInOrder_74 : decode cX3_downInOrder 74 = .ok (.iinc 2 1, 3) := by decide +kernel
theorem dX3_downInOrder_77 : decode cX3_downInOrder 77 = .ok (.iinc 4 1, 3) := by decide +kernel
theorem dX3_downInOrder_80 : decode cX3_downInOrder 80 = .ok (.goto (-39), 3) := by decide +kernel
theorem dX3_downInOrder_83 : decode cX3_downInOrder 83 = .ok (.iinc 3 1, 3) := by decide +kernel
theorem dX3_downInOrder_86 : decode cX3_downInOrder 86 = .ok (.goto (-64), 3) := by decide +kernel
theorem dX3_downInOrder_89 : decode cX3_downInOrder 89 = .ok (.iload_n 2, 1) := by decide +kernel
theorem dX3_downInOrder_90 : decode cX3_downInOrder 90 = .ok (.ireturn, 1) := by decide +kernel
theorem dX3_firstEmpty_0 : decode cX3_firstEmpty 0 = .ok (.aload_n 0, 1) := by decide +kernel
theorem dX3_firstEmpty_1 : decode cX3_firstEmpty 1 = .ok (.getfield 12, 3) := by decide +kernel
theorem dX3_firstEmpty_4 : decode cX3_firstEmpty 4 = .ok (.aload_n 0, 1) := by decide +kernel
theorem dX3_firstEmpty_5 : decode cX3_firstEmpty 5 = .ok (.getfield 25, 3) := by decide +kernel
theorem dX3_firstEmpty_8 : decode cX3_firstEmpty 8 = .ok (.invokevirtual 36, 3) := by decide +kernel
theorem dX3_firstEmpty_11 : decode cX3_firstEmpty 11 = .ok (.iconst 0, 1) := by decide +kernel
theorem dX3_firstEmpty_12 : decode cX3_firstEmpty 12 = .ok (.istore_n 1, 1) := by decide +kernel
theorem dX3_firstEmpty_13 : decode cX3_firstEmpty 13 = .ok (.iload_n 1, 1) := by decide +kernel
theorem dX3_firstEmpty_14 : decode cX3_firstEmpty 14 = .ok (.bipush 99, 2) := by decide +kernel
theorem dX3_firstEmpty_16 : decode cX3_firstEmpty 16 = .ok (.if_icmp .gt 51, 3) := by decide +kernel
theorem dX3_firstEmpty_19 : decode cX3_firstEmpty 19 = .ok (.iload_n 1, 1) := by decide +kernel
theorem dX3_firstEmpty_20 : decode cX3_firstEmpty 20 = .ok (.ifCond .le 14, 3) := by decide +kernel
theorem dX3_firstEmpty_23 : decode cX3_firstEmpty 23 = .ok (.aload_n 0, 1) := by decide +kernel
theorem dX3_firstEmpty_24 : decode cX3_firstEmpty 24 = .ok (.getfield 12, 3) := by decide +kernel
theorem dX3_firstEmpty_27 : decode cX3_firstEmpty 27 = .ok (.aload_n 0, 1) := by decide +kernel
theorem dX3_firstEmpty_28 : decode cX3_firstEmpty 28 = .ok (.getfield 28, 3) := by decide +kernel
theorem dX3_firstEmpty_31 : decode cX3_firstEmpty 31 = .ok (.invokevirtual 58, 3) := by decide +kernel
theorem dX3_firstEmpty_34 : decode cX3_firstEmpty 34 = .ok (.aload_n 0, 1) := by decide +kernel
theorem dX3_firstEmpty_35 : decode cX3_firstEmpty 35 = .ok (.getfield 12, 3) := by decide +kernel
theorem dX3_firstEmpty_38 : decode cX3_firstEmpty 38 = .ok (.invokevirtual 89, 3) := by decide +kernel
theorem dX3_firstEmpty_41 : decode cX3_firstEmpty 41 = .ok (.ifCond .ne 20, 3) := by decide +kernel
theorem dX3_firstEmpty_44 : decode cX3_firstEmpty 44 = .ok (.aload_n 0, 1) := by decide +kernel
theorem dX3_firstEmpty_45 : decode cX3_firstEmpty 45 = .ok (.getfield 32, 3) := by decide +kernel
theorem dX3_firstEmpty_48 : decode cX3_firstEmpty 48 = .ok (.aload_n 0, 1) := by decide +kernel
theorem dX3_firstEmpty_49 : decode cX3_firstEmpty 49 = .ok (.getfield 12, 3) := by decide +kernel
theorem dX3_firstEmpty_52 : decode cX3_firstEmpty 52 = .ok (.getfield 54, 3) := by decide +kernel
theorem dX3_firstEmpty_55 : decode cX3_firstEmpty 55 = .ok (.i2l, 1) := by decide +kernel
theorem dX3_firstEmpty_56 : decode cX3_firstEmpty 56 = .ok (.invokevirtual 62, 3) := by decide +kernel
theorem dX3_firstEmpty_59 : decode cX3_firstEmpty 59 = .ok (.iload_n 1, 1) := by decide +kernel
theorem dX3_firstEmpty_60 : decode cX3_firstEmpty 60 = .ok (.ireturn, 1) := by decide +kernel
theorem dX3_firstEmpty_61 : decode cX3_firstEmpty 61 = .ok (.iinc 1 1, 3) := by decide +kernel
theorem dX3_firstEmpty_64 : decode cX3_firstEmpty 64 = .ok (.goto (-51), 3) := by decide +kernel
theorem dX3_firstEmpty_67 : decode cX3_firstEmpty 67 = .ok (.bipush (-2), 2) := by decide +kernel
theorem dX3_firstEmpty_69 : decode cX3_firstEmpty 69 = .ok (.ireturn, 1) := by decide +kernel
theorem dX3_heightBehind_0 : decode cX3_heightBehind 0 = .ok (.aload_n 0, 1) := by decide +kernel
theorem dX3_heightBehind_1 : decode cX3_heightBehind 1 = .ok (.getfield 25, 3) := by decide +kernel
theorem dX3_heightBehind_4 : decode cX3_heightBehind 4 = .ok (.iload_n 1, 1) := by decide +kernel
theorem dX3_heightBehind_5 : decode cX3_heightBehind 5 = .ok (.invokevirtual 69, 3) := by decide +kernel
theorem dX3_heightBehind_8 : decode cX3_heightBehind 8 = .ok (.ifCond .ne 5, 3) := by decide +kernel
theorem dX3_heightBehind_11 : decode cX3_heightBehind 11 = .ok (.iconst (-1), 1) := by decide +kernel
theorem dX3_heightBehind_12 : decode cX3_heightBehind 12 = .ok (.ireturn, 1) := by decide +kernel
theorem dX3_heightBehind_13 : decode cX3_heightBehind 13 = .ok (.aload_n 0, 1) := by decide +kernel
theorem dX3_heightBehind_14 : decode cX3_heightBehind 14 = .ok (.getfield 12, 3) := by decide +kernel
theorem dX3_heightBehind_17 : decode cX3_heightBehind 17 = .ok (.aload_n 0, 1) := by decide +kernel
theorem dX3_heightBehind_18 : decode cX3_heightBehind 18 = .ok (.getfield 25, 3) := by decide +kernel
theorem dX3_heightBehind_21 : decode cX3_heightBehind 21 = .ok (.invokevirtual 36, 3) := by decide +kernel
theorem dX3_heightBehind_24 : decode cX3_heightBehind 24 = .ok (.aload_n 0, 1) := by decide +kernel
theorem dX3_heightBehind_25 : decode cX3_heightBehind 25 = .ok (.getfield 12, 3) := by decide +kernel
theorem dX3_heightBehind_28 : decode cX3_heightBehind 28 = .ok (.aload_n 0, 1) := by decide +kernel
theorem dX3_heightBehind_29 : decode cX3_heightBehind 29 = .ok (.getfield 28, 3) := by decide +kernel
theorem dX3_heightBehind_32 : decode cX3_heightBehind 32 = .ok (.iload_n 2, 1) := by decide +kernel
theorem dX3_heightBehind_33 : decode cX3_heightBehind 33 = .ok (.invokevirtual 40, 3) := by decide +kernel
theorem dX3_heightBehind_36 : decode cX3_heightBehind 36 = .ok (.pop, 1) := by decide +kernel
theorem dX3_heightBehind_37 : decode cX3_heightBehind 37 = .ok (.aload_n 0, 1) := by decide +kernel
theorem dX3_heightBehind_38 : decode cX3_heightBehind 38 = .ok (.getfield 32, 3) := by decide +kernel
theorem dX3_heightBehind_41 : decode cX3_heightBehind 41 = .ok (.aload_n 0, 1) := by decide +kernel
theorem dX3_heightBehind_42 : decode cX3_heightBehind 42 = .ok (.getfield 12, 3) := by decide +kernel
theorem dX3_heightBehind_45 : decode cX3_heightBehind 45 = .ok (.getfield 92, 3) := by decide +kernel
theorem dX3_heightBehind_48 : decode cX3_heightBehind 48 = .ok (.iload_n 1, 1) := by decide +kernel
theorem dX3_heightBehind_49 : decode cX3_heightBehind 49 = .ok (.iaload, 1) := by decide +kernel
theorem dX3_heightBehind_50 : decode cX3_heightBehind 50 = .ok (.i2l, 1) := by decide +kernel
theorem dX3_heightBehind_51 : decode cX3_heightBehind 51 = .ok (.aload_n 0, 1) := by decide +kernel
theorem dX3_heightBehind_52 : decode cX3_heightBehind 52 = .ok (.getfield 12, 3) := by decide +kernel
theorem dX3_heightBehind_55 : decode cX3_heightBehind 55 = .ok (.getfield 95, 3) := by decide +kernel
theorem dX3_heightBehind_58 : decode cX3_heightBehind 58 = .ok (.iload_n 1, 1) := by decide +kernel
theorem dX3_heightBehind_59 : decode cX3_heightBehind 59 = .ok (.iaload, 1) := by decide +kernel
theorem dX3_heightBehind_60 : decode cX3_heightBehind 60 = .ok (.i2l, 1) := by decide +kernel
theorem dX3_heightBehind_61 : decode cX3_heightBehind 61 = .ok (.invokevirtual 48, 3) := by decide +kernel
theorem dX3_heightBehind_64 : decode cX3_heightBehind 64 = .ok (.aload_n 0, 1) := by decide +kernel
theorem dX3_heightBehind_65 : decode cX3_heightBehind 65 = .ok (.getfield 12, 3) := by decide +kernel
theorem dX3_heightBehind_68 : decode cX3_heightBehind 68 = .ok (.getfield 98, 3) := by decide +kernel
theorem dX3_heightBehind_71 : decode cX3_heightBehind 71 = .ok (.iload_n 1, 1) := by decide +kernel
theorem dX3_heightBehind_72 : decode cX3_heightBehind 72 = .ok (.iaload, 1) := by decide +kernel
theorem dX3_heightBehind_73 : decode cX3_heightBehind 73 = .ok (.ireturn, 1) := by decide +kernel
theorem dX3_firstDown_0 : decode cX3_firstDown 0 = .ok (.aload_n 0, 1) := by decide +kernel
theorem dX3_firstDown_1 : decode cX3_firstDown 1 = .ok (.getfield 12, 3) := by decide +kernel
theorem dX3_firstDown_4 : decode cX3_firstDown 4 = .ok (.aload_n 0, 1) := by decide +kernel
theorem dX3_firstDown_5 : decode cX3_firstDown 5 = .ok (.getfield 25, 3) := by decide +kernel
theorem dX3_firstDown_8 : decode cX3_firstDown 8 = .ok (.invokevirtual 36, 3) := by decide +kernel
theorem dX3_firstDown_11 : decode cX3_firstDown 11 = .ok (.bipush (-2), 2) := by decide +kernel
theorem dX3_firstDown_13 : decode cX3_firstDown 13 = .ok (.istore_n 2, 1) := by decide +kernel
theorem dX3_firstDown_14 : decode cX3_firstDown 14 = .ok (.iconst 0, 1) := by decide +kernel
theorem dX3_firstDown_15 : decode cX3_firstDown 15 = .ok (.istore_n 3, 1) := by decide +kernel
theorem dX3_firstDown_16 : decode cX3_firstDown 16 = .ok (.iconst 1, 1) := by decide +kernel
theorem dX3_firstDown_17 : decode cX3_firstDown 17 = .ok (.istore 4, 2) := by decide +kernel
theorem dX3_firstDown_19 : decode cX3_firstDown 19 = .ok (.iload 4, 2) := by decide +kernel
theorem dX3_firstDown_21 : decode cX3_firstDown 21 = .ok (.bipush 99, 2) := by decide +kernel
theorem dX3_firstDown_23 : decode cX3_firstDown 23 = .ok (.if_icmp .gt 49, 3) := by decide +kernel
theorem dX3_firstDown_26 : decode cX3_firstDown 26 = .ok (.aload_n 0, 1) := by decide +kernel
theorem dX3_firstDown_27 : decode cX3_firstDown 27 = .ok (.getfield 12, 3) := by decide +kernel
theorem dX3_firstDown_30 : decode cX3_firstDown 30 = .ok (.aload_n 0, 1) := by decide +kernel
theorem dX3_firstDown_31 : decode cX3_firstDown 31 = .ok (.getfield 28, 3) := by decide +kernel
theorem dX3_firstDown_34 : decode cX3_firstDown 34 = .ok (.invokevirtual 58, 3) := by decide +kernel
theorem dX3_firstDown_37 : decode cX3_firstDown 37 = .ok (.aload_n 0, 1) := by decide +kernel
theorem dX3_firstDown_38 : decode cX3_firstDown 38 = .ok (.getfield 12, 3) := by decide +kernel
theorem dX3_firstDown_41 : decode cX3_firstDown 41 = .ok (.getfield 83, 3) := by decide +kernel
theorem dX3_firstDown_44 : decode cX3_firstDown 44 = .ok (.iload_n 1, 1) := by decide +kernel
theorem dX3_firstDown_45 : decode cX3_firstDown 45 = .ok (.ishr, 1) := by decide +kernel
theorem dX3_firstDown_46 : decode cX3_firstDown 46 = .ok (.iconst 1, 1) := by decide +kernel
theorem dX3_firstDown_47 : decode cX3_firstDown 47 = .ok (.iand, 1) := by decide +kernel
theorem dX3_firstDown_48 : decode cX3_firstDown 48 = .ok (.iconst 1, 1) := by decide +kernel
theorem dX3_firstDown_49 : decode cX3_firstDown 49 = .ok (.if_icmp .ne 17, 3) := by decide +kernel
theorem dX3_firstDown_52 : decode cX3_firstDown 52 = .ok (.iload_n 3, 1) := by decide +kernel
theorem dX3_firstDown_53 : decode cX3_firstDown 53 = .ok (.ifCond .ne 8, 3) := by decide +kernel
theorem dX3_firstDown_56 : decode cX3_firstDown 56 = .ok (.iload 4, 2) := by decide +kernel
theorem dX3_firstDown_58 : decode cX3_firstDown 58 = .ok (.goto 4, 3) := by decide +kernel
theorem dX3_firstDown_61 : decode cX3_firstDown 61 = .ok (.iload_n 2, 1) := by decide +kernel
theorem dX3_firstDown_62 : decode cX3_firstDown 62 = .ok (.istore_n 2, 1) := by decide +kernel
theorem dX3_firstDown_63 : decode cX3_firstDown 63 = .ok (.iinc 3 1, 3) := by decide +kernel
theorem dX3_firstDown_66 : decode cX3_firstDown 66 = .ok (.iinc 4 1, 3) := by decide +kernel
theorem dX3_firstDown_69 : decode cX3_firstDown 69 = .ok (.goto (-50), 3) := by decide +kernel
theorem dX3_firstDown_72 : decode cX3_firstDown 72 = .ok (.iload_n 3, 1) := by decide +kernel
theorem dX3_firstDown_73 : decode cX3_firstDown 73 = .ok (.ifCond .le 12, 3) := by decide +kernel
theorem dX3_firstDown_76 : decode cX3_firstDown 76 = .ok (.aload_n 0, 1) := by decide +kernel
theorem dX3_firstDown_77 : decode cX3_firstDown 77 = .ok (.getfield 32, 3) := by decide +kernel
theorem dX3_firstDown_80 : decode cX3_firstDown 80 = .ok (.iload_n 3, 1) := by decide +kernel
theorem dX3_firstDown_81 : decode cX3_firstDown 81 = .ok (.i2l, 1) := by decide +kernel
theorem dX3_firstDown_82 : decode cX3_firstDown 82 = .ok (.invokevirtual 62, 3) := by decide +kernel
theorem dX3_firstDown_85 : decode cX3_firstDown 85 = .ok (.iload_n 2, 1) := by decide +kernel
theorem dX3_firstDown_86 : decode cX3_firstDown 86 = .ok (.ireturn, 1) := by decide +kernel
theorem dX3_thickest_0 : decode cX3_thickest 0 = .ok (.aload_n 0, 1) := by decide +kernel
theorem dX3_thickest_1 : decode cX3_thickest 1 = .ok (.getfield 12, 3) := by decide +kernel
theorem dX3_thickest_4 : decode cX3_thickest 4 = .ok (.aload_n 0, 1) := by decide +kernel
theorem dX3_thickest_5 : decode cX3_thickest 5 = .ok (.getfield 25, 3) := by decide +kernel
theorem dX3_thickest_8 : decode cX3_thickest 8 = .ok (.invokevirtual 36, 3) := by decide +kernel
theorem dX3_thickest_11 : decode cX3_thickest 11 = .ok (.aload_n 0, 1) := by decide +kernel
theorem dX3_thickest_12 : decode cX3_thickest 12 = .ok (.getfield 32, 3) := by decide +kernel
theorem dX3_thickest_15 : decode cX3_thickest 15 = .ok (.invokevirtual 80, 3) := by decide +kernel
theorem dX3_thickest_18 : decode cX3_thickest 18 = .ok (.iconst 0, 1) := by decide +kernel
theorem dX3_thickest_19 : decode cX3_thickest 19 = .ok (.istore_n 2, 1) := by decide +kernel
theorem dX3_thickest_20 : decode cX3_thickest 20 = .ok (.iconst 0, 1) := by decide +kernel
theorem dX3_thickest_21 : decode cX3_thickest 21 = .ok (.istore_n 3, 1) := by decide +kernel
theorem dX3_thickest_22 : decode cX3_thickest 22 = .ok (.iload_n 3, 1) := by decide +kernel
theorem dX3_thickest_23 : decode cX3_thickest 23 = .ok (.iload_n 1, 1) := by decide +kernel
theorem dX3_thickest_24 : decode cX3_thickest 24 = .ok (.if_icmp .gt 75, 3) := by decide +kernel
theorem dX3_thickest_27 : decode cX3_thickest 27 = .ok (.iload_n 3, 1) := by decide +kernel
theorem dX3_thickest_28 : decode cX3_thickest 28 = .ok (.ifCond .le 14, 3) := by decide +kernel
theorem dX3_thickest_31 : decode cX3_thickest 31 = .ok (.aload_n 0, 1) := by decide +kernel
theorem dX3_thickest_32 : decode cX3_thickest 32 = .ok (.getfield 12, 3) := by decide +kernel
theorem dX3_thickest_35 : decode cX3_thickest 35 = .ok (.aload_n 0, 1) := by decide +kernel
theorem dX3_thickest_36 : decode cX3_thickest 36 = .ok (.getfield 28, 3) := by decide +kernel
theorem dX3_thickest_39 : decode cX3_thickest 39 = .ok (.invokevirtual 58, 3) := by decide +kernel
theorem dX3_thickest_42 : decode cX3_thickest 42 = .ok (.aload_n 0, 1) := by decide +kernel
theorem dX3_thickest_43 : decode cX3_thickest 43 = .ok (.invokevirtual 101, 3) := by decide +kernel
theorem dX3_thickest_46 : decode cX3_thickest 46 = .ok (.iconst 0, 1) := by decide +kernel
theorem dX3_thickest_47 : decode cX3_thickest 47 = .ok (.istore 4, 2) := by decide +kernel
theorem dX3_thickest_49 : decode cX3_thickest 49 = .ok (.iload 4, 2) := by decide +kernel
theorem dX3_thickest_51 : decode cX3_thickest 51 = .ok (.bipush 9, 2) := by decide +kernel
theorem dX3_thickest_53 : decode cX3_thickest 53 = .ok (.if_icmp .gt 40, 3) := by decide +kernel
theorem dX3_thickest_56 : decode cX3_thickest 56 = .ok (.aload_n 0, 1) := by decide +kernel
theorem dX3_thickest_57 : decode cX3_thickest 57 = .ok (.getfield 22, 3) := by decide +kernel
theorem dX3_thickest_60 : decode cX3_thickest 60 = .ok (.iload 4, 2) := by decide +kernel
theorem dX3_thickest_62 : decode cX3_thickest 62 = .ok (.iaload, 1) := by decide +kernel
theorem dX3_thickest_63 : decode cX3_thickest 63 = .ok (.iload_n 2, 1) := by decide +kernel
theorem dX3_thickest_64 : decode cX3_thickest 64 = .ok (.if_icmp .le 23, 3) := by decide +kernel
theorem dX3_thickest_67 : decode cX3_thickest 67 = .ok (.aload_n 0, 1) := by decide +kernel
theorem dX3_thickest_68 : decode cX3_thickest 68 = .ok (.getfield 22, 3) := by decide +kernel
theorem dX3_thickest_71 : decode cX3_thickest 71 = .ok (.iload 4, 2) := by decide +kernel
theorem dX3_thickest_73 : decode cX3_thickest 73 = .ok (.iaload, 1) := by decide +kernel
theorem dX3_thickest_74 : decode cX3_thickest 74 = .ok (.istore_n 2, 1) := by decide +kernel
theorem dX3_thickest_75 : decode cX3_thickest 75 = .ok (.aload_n 0, 1) := by decide +kernel
theorem dX3_thickest_76 : decode cX3_thickest 76 = .ok (.getfield 32, 3) := by decide +kernel
theorem dX3_thickest_79 : decode cX3_thickest 79 = .ok (.iload 4, 2) := by decide +kernel
theorem dX3_thickest_81 : decode cX3_thickest 81 = .ok (.i2l, 1) := by decide +kernel
theorem dX3_thickest_82 : decode cX3_thickest 82 = .ok (.iload_n 3, 1) := by decide +kernel
theorem dX3_thickest_83 : decode cX3_thickest 83 = .ok (.i2l, 1) := by decide +kernel
theorem dX3_thickest_84 : decode cX3_thickest 84 = .ok (.invokevirtual 48, 3) := by decide +kernel
theorem dX3_thickest_87 : decode cX3_thickest 87 = .ok (.iinc 4 1, 3) := by decide +kernel
theorem dX3_thickest_90 : decode cX3_thickest 90 = .ok (.goto (-41), 3) := by decide +kernel
theorem dX3_thickest_93 : decode cX3_thickest 93 = .ok (.iinc 3 1, 3) := by decide +kernel
theorem dX3_thickest_96 : decode cX3_thickest 96 = .ok (.goto (-74), 3) := by decide +kernel
theorem dX3_thickest_99 : decode cX3_thickest 99 = .ok (.iload_n 2, 1) := by decide +kernel
theorem dX3_thickest_100 : decode cX3_thickest 100 = .ok (.ireturn, 1) := by decide +kernel
theorem dX3_countCrowds_0 : decode cX3_countCrowds 0 = .ok (.iconst 0, 1) := by decide +kernel
theorem dX3_countCrowds_1 : decode cX3_countCrowds 1 = .ok (.istore_n 1, 1) := by decide +kernel
theorem dX3_countCrowds_2 : decode cX3_countCrowds 2 = .ok (.iload_n 1, 1) := by decide +kernel
theorem dX3_countCrowds_3 : decode cX3_countCrowds 3 = .ok (.bipush 9, 2) := by decide +kernel
theorem dX3_countCrowds_5 : decode cX3_countCrowds 5 = .ok (.if_icmp .gt 16, 3) := by decide +kernel
theorem dX3_countCrowds_8 : decode cX3_countCrowds 8 = .ok (.aload_n 0, 1) := by decide +kernel
theorem dX3_countCrowds_9 : decode cX3_countCrowds 9 = .ok (.getfield 22, 3) := by decide +kernel
theorem dX3_countCrowds_12 : decode cX3_countCrowds 12 = .ok (.iload_n 1, 1) := by decide +kernel
theorem dX3_countCrowds_13 : decode cX3_countCrowds 13 = .ok (.iconst 0, 1) := by decide +kernel
theorem dX3_countCrowds_14 : decode cX3_countCrowds 14 = .ok (.iastore, 1) := by decide +kernel
theorem dX3_countCrowds_15 : decode cX3_countCrowds 15 = .ok (.iinc 1 1, 3) := by decide +kernel
theorem dX3_countCrowds_18 : decode cX3_countCrowds 18 = .ok (.goto (-16), 3) := by decide +kernel
theorem dX3_countCrowds_21 : decode cX3_countCrowds 21 = .ok (.iconst 0, 1) := by decide +kernel
theorem dX3_countCrowds_22 : decode cX3_countCrowds 22 = .ok (.istore_n 1, 1) := by decide +kernel
theorem dX3_countCrowds_23 : decode cX3_countCrowds 23 = .ok (.iload_n 1, 1) := by decide +kernel
theorem dX3_countCrowds_24 : decode cX3_countCrowds 24 = .ok (.bipush 7, 2) := by decide +kernel
theorem dX3_countCrowds_26 : decode cX3_countCrowds 26 = .ok (.if_icmp .ge 62, 3) := by decide +kernel
theorem dX3_countCrowds_29 : decode cX3_countCrowds 29 = .ok (.iload_n 1, 1) := by decide +kernel
theorem dX3_countCrowds_30 : decode cX3_countCrowds 30 = .ok (.aload_n 0, 1) := by decide +kernel
theorem dX3_countCrowds_31 : decode cX3_countCrowds 31 = .ok (.getfield 12, 3) := by decide +kernel
theorem dX3_countCrowds_34 : decode cX3_countCrowds 34 = .ok (.getfield 73, 3) := by decide +kernel
theorem dX3_countCrowds_37 : decode cX3_countCrowds 37 = .ok (.if_icmp .ge 51, 3) := by decide +kernel
theorem dX3_countCrowds_40 : decode cX3_countCrowds 40 = .ok (.aload_n 0, 1) := by decide +kernel
theorem dX3_countCrowds_41 : decode cX3_countCrowds 41 = .ok (.getfield 12, 3) := by decide +kernel
theorem dX3_countCrowds_44 : decode cX3_countCrowds 44 = .ok (.getfield 98, 3) := by decide +kernel
theorem dX3_countCrowds_47 : decode cX3_countCrowds 47 = .ok (.iload_n 1, 1) := by decide +kernel
theorem dX3_countCrowds_48 : decode cX3_countCrowds 48 = .ok (.iaload, 1) := by decide +kernel
theorem dX3_countCrowds_49 : decode cX3_countCrowds 49 = .ok (.istore_n 2, 1) := by decide +kernel
theorem dX3_countCrowds_50 : decode cX3_countCrowds 50 = .ok (.aload_n 0, 1) := by decide +kernel
theorem dX3_countCrowds_51 : decode cX3_countCrowds 51 = .ok (.getfield 12, 3) := by decide +kernel
theorem dX3_countCrowds_54 : decode cX3_countCrowds 54 = .ok (.getfield 92, 3) := by decide +kernel
theorem dX3_countCrowds_57 : decode cX3_countCrowds 57 = .ok (.iload_n 1, 1) := by decide +kernel
theorem dX3_countCrowds_58 : decode cX3_countCrowds 58 = .ok (.iaload, 1) := by decide +kernel
theorem dX3_countCrowds_59 : decode cX3_countCrowds 59 = .ok (.ifCond .eq 23, 3) := by decide +kernel
theorem dX3_countCrowds_62 : decode cX3_countCrowds 62 = .ok (.iload_n 2, 1) := by decide +kernel
theorem dX3_countCrowds_63 : decode cX3_countCrowds 63 = .ok (.ifCond .lt 19, 3) := by decide +kernel
theorem dX3_countCrowds_66 : decode cX3_countCrowds 66 = .ok (.iload_n 2, 1) := by decide +kernel
theorem dX3_countCrowds_67 : decode cX3_countCrowds 67 = .ok (.bipush 9, 2) := by decide +kernel
theorem dX3_countCrowds_69 : decode cX3_countCrowds 69 = .ok (.if_icmp .gt 13, 3) := by decide +kernel
theorem dX3_countCrowds_72 : decode cX3_countCrowds 72 = .ok (.aload_n 0, 1) := by decide +kernel
theorem dX3_countCrowds_73 : decode cX3_countCrowds 73 = .ok (.getfield 22, 3) := by decide +kernel
theorem dX3_countCrowds_76 : decode cX3_countCrowds 76 = .ok (.iload_n 2, 1) := by decide +kernel
theorem dX3_countCrowds_77 : decode cX3_countCrowds 77 = .ok (.dup2, 1) := by decide +kernel
theorem dX3_countCrowds_78 : decode cX3_countCrowds 78 = .ok (.iaload, 1) := by decide +kernel
theorem dX3_countCrowds_79 : decode cX3_countCrowds 79 = .ok (.iconst 1, 1) := by decide +kernel
theorem dX3_countCrowds_80 : decode cX3_countCrowds 80 = .ok (.iadd, 1) := by decide +kernel
theorem dX3_countCrowds_81 : decode cX3_countCrowds 81 = .ok (.iastore, 1) := by decide +kernel
theorem dX3_countCrowds_82 : decode cX3_countCrowds 82 = .ok (.iinc 1 1, 3) := by decide +kernel
theorem dX3_countCrowds_85 : decode cX3_countCrowds 85 = .ok (.goto (-62), 3) := by decide +kernel
theorem dX3_countCrowds_88 : decode cX3_countCrowds 88 = .ok (.return_, 1) := by decide +kernel
theorem dX3_ownersChange_0 : decode cX3_ownersChange 0 = .ok (.aload_n 0, 1) := by decide +kernel
theorem dX3_ownersChange_1 : decode cX3_ownersChange 1 = .ok (.getfield 12, 3) := by decide +kernel
theorem dX3_ownersChange_4 : decode cX3_ownersChange 4 = .ok (.aload_n 0, 1) := by decide +kernel
theorem dX3_ownersChange_5 : decode cX3_ownersChange 5 = .ok (.getfield 25, 3) := by decide +kernel
theorem dX3_ownersChange_8 : decode cX3_ownersChange 8 = .ok (.invokevirtual 36, 3) := by decide +kernel
theorem dX3_ownersChange_11 : decode cX3_ownersChange 11 = .ok (.iconst 0, 1) := by decide +kernel
theorem dX3_ownersChange_12 : decode cX3_ownersChange 12 = .ok (.istore_n 2, 1) := by decide +kernel
theorem dX3_ownersChange_13 : decode cX3_ownersChange 13 = .ok (.iconst 0, 1) := by decide +kernel
theorem dX3_ownersChange_14 : decode cX3_ownersChange 14 = .ok (.istore_n 3, 1) := by decide +kernel
theorem dX3_ownersChange_15 : decode cX3_ownersChange 15 = .ok (.iconst 0, 1) := by decide +kernel
theorem dX3_ownersChange_16 : decode cX3_ownersChange 16 = .ok (.istore 4, 2) := by decide +kernel
theorem dX3_ownersChange_18 : decode cX3_ownersChange 18 = .ok (.bipush 7, 2) := by decide +kernel
theorem dX3_ownersChange_20 : decode cX3_ownersChange 20 = .ok (.istore 5, 2) := by decide +kernel
theorem dX3_ownersChange_22 : decode cX3_ownersChange 22 = .ok (.iconst 1, 1) := by decide +kernel
theorem dX3_ownersChange_23 : decode cX3_ownersChange 23 = .ok (.istore 6, 2) := by decide +kernel
theorem dX3_ownersChange_25 : decode cX3_ownersChange 25 = .ok (.iload 6, 2) := by decide +kernel
theorem dX3_ownersChange_27 : decode cX3_ownersChange 27 = .ok (.iload_n 1, 1) := by decide +kernel
theorem dX3_ownersChange_28 : decode cX3_ownersChange 28 = .ok (.if_icmp .gt 84, 3) := by decide +kernel
theorem dX3_ownersChange_31 : decode cX3_ownersChange 31 = .ok (.aload_n 0, 1) := by decide +kernel
theorem dX3_ownersChange_32 : decode cX3_ownersChange 32 = .ok (.getfield 12, 3) := by decide +kernel
theorem dX3_ownersChange_35 : decode cX3_ownersChange 35 = .ok (.getfield 54, 3) := by decide +kernel
theorem dX3_ownersChange_38 : decode cX3_ownersChange 38 = .ok (.istore 7, 2) := by decide +kernel
theorem dX3_ownersChange_40 : decode cX3_ownersChange 40 = .ok (.aload_n 0, 1) := by decide +kernel
theorem dX3_ownersChange_41 : decode cX3_ownersChange 41 = .ok (.getfield 12, 3) := by decide +kernel
theorem dX3_ownersChange_44 : decode cX3_ownersChange 44 = .ok (.aload_n 0, 1) := by decide +kernel
theorem dX3_ownersChange_45 : decode cX3_ownersChange 45 = .ok (.getfield 28, 3) := by decide +kernel
theorem dX3_ownersChange_48 : decode cX3_ownersChange 48 = .ok (.invokevirtual 58, 3) := by decide +kernel
theorem dX3_ownersChange_51 : decode cX3_ownersChange 51 = .ok (.aload_n 0, 1) := by decide +kernel
theorem dX3_ownersChange_52 : decode cX3_ownersChange 52 = .ok (.getfield 12, 3) := by decide +kernel
theorem dX3_ownersChange_55 : decode cX3_ownersChange 55 = .ok (.getfield 54, 3) := by decide +kernel
theorem dX3_ownersChange_58 : decode cX3_ownersChange 58 = .ok (.iload 7, 2) := by decide +kernel
theorem dX3_ownersChange_60 : decode cX3_ownersChange 60 = .ok (.if_icmp .eq 8, 3) := by decide +kernel
theorem dX3_ownersChange_63 : decode cX3_ownersChange 63 = .ok (.iinc 2 1, 3) := by decide +kernel
theorem dX3_ownersChange_66 : decode cX3_ownersChange 66 = .ok (.iconst 0, 1) := by decide +kernel
theorem dX3_ownersChange_67 : decode cX3_ownersChange 67 = .ok (.istore_n 3, 1) := by decide +kernel
theorem dX3_ownersChange_68 : decode cX3_ownersChange 68 = .ok (.aload_n 0, 1) := by decide +kernel
theorem dX3_ownersChange_69 : decode cX3_ownersChange 69 = .ok (.getfield 12, 3) := by decide +kernel
theorem dX3_ownersChange_72 : decode cX3_ownersChange 72 = .ok (.getfield 54, 3) := by decide +kernel
theorem dX3_ownersChange_75 : decode cX3_ownersChange 75 = .ok (.bipush 7, 2) := by decide +kernel
theorem dX3_ownersChange_77 : decode cX3_ownersChange 77 = .ok (.if_icmp .ne 7, 3) := by decide +kernel
theorem dX3_ownersChange_80 : decode cX3_ownersChange 80 = .ok (.iconst 0, 1) := by decide +kernel
theorem dX3_ownersChange_81 : decode cX3_ownersChange 81 = .ok (.goto 6, 3) := by decide +kernel
theorem dX3_ownersChange_84 : decode cX3_ownersChange 84 = .ok (.iload_n 3, 1) := by decide +kernel
theorem dX3_ownersChange_85 : decode cX3_ownersChange 85 = .ok (.iconst 1, 1) := by decide +kernel
theorem dX3_ownersChange_86 : decode cX3_ownersChange 86 = .ok (.iadd, 1) := by decide +kernel
theorem dX3_ownersChange_87 : decode cX3_ownersChange 87 = .ok (.istore_n 3, 1) := by decide +kernel
theorem dX3_ownersChange_88 : decode cX3_ownersChange 88 = .ok (.iload_n 3, 1) := by decide +kernel
theorem dX3_ownersChange_89 : decode cX3_ownersChange 89 = .ok (.iload 4, 2) := by decide +kernel
theorem dX3_ownersChange_91 : decode cX3_ownersChange 91 = .ok (.if_icmp .le 15, 3) := by decide +kernel
theorem dX3_ownersChange_94 : decode cX3_ownersChange 94 = .ok (.iload_n 3, 1) := by decide +kernel
theorem dX3_ownersChange_95 : decode cX3_ownersChange 95 = .ok (.istore 4, 2) := by decide +kernel
theorem dX3_ownersChange_97 : decode cX3_ownersChange 97 = .ok (.aload_n 0, 1) := by decide +kernel
theorem dX3_ownersChange_98 : decode cX3_ownersChange 98 = .ok (.getfield 12, 3) := by decide +kernel
theorem dX3_ownersChange_101 : decode cX3_ownersChange 101 = .ok (.getfield 54, 3) := by decide +kernel
theorem dX3_ownersChange_104 : decode cX3_ownersChange 104 = .ok (.istore 5, 2) := by decide +kernel
theorem dX3_ownersChange_106 : decode cX3_ownersChange 106 = .ok (.iinc 6 1, 3) := by decide +kernel
theorem dX3_ownersChange_109 : decode cX3_ownersChange 109 = .ok (.goto (-84), 3) := by decide +kernel
theorem dX3_ownersChange_112 : decode cX3_ownersChange 112 = .ok (.aload_n 0, 1) := by decide +kernel
theorem dX3_ownersChange_113 : decode cX3_ownersChange 113 = .ok (.getfield 32, 3) := by decide +kernel
theorem dX3_ownersChange_116 : decode cX3_ownersChange 116 = .ok (.iload 4, 2) := by decide +kernel
theorem dX3_ownersChange_118 : decode cX3_ownersChange 118 = .ok (.i2l, 1) := by decide +kernel
theorem dX3_ownersChange_119 : decode cX3_ownersChange 119 = .ok (.iload 5, 2) := by decide +kernel
theorem dX3_ownersChange_121 : decode cX3_ownersChange 121 = .ok (.i2l, 1) := by decide +kernel
theorem dX3_ownersChange_122 : decode cX3_ownersChange 122 = .ok (.invokevirtual 48, 3) := by decide +kernel
theorem dX3_ownersChange_125 : decode cX3_ownersChange 125 = .ok (.iload_n 2, 1) := by decide +kernel
theorem dX3_ownersChange_126 : decode cX3_ownersChange 126 = .ok (.ireturn, 1) := by decide +kernel
theorem dX3_heightsGone_0 : decode cX3_heightsGone 0 = .ok (.aload_n 0, 1) := by decide +kernel
theorem dX3_heightsGone_1 : decode cX3_heightsGone 1 = .ok (.getfield 12, 3) := by decide +kernel
theorem dX3_heightsGone_4 : decode cX3_heightsGone 4 = .ok (.aload_n 0, 1) := by decide +kernel
theorem dX3_heightsGone_5 : decode cX3_heightsGone 5 = .ok (.getfield 25, 3) := by decide +kernel
theorem dX3_heightsGone_8 : decode cX3_heightsGone 8 = .ok (.invokevirtual 36, 3) := by decide +kernel
theorem dX3_heightsGone_11 : decode cX3_heightsGone 11 = .ok (.aload_n 0, 1) := by decide +kernel
theorem dX3_heightsGone_12 : decode cX3_heightsGone 12 = .ok (.invokevirtual 66, 3) := by decide +kernel
theorem dX3_heightsGone_15 : decode cX3_heightsGone 15 = .ok (.iconst 1, 1) := by decide +kernel
theorem dX3_heightsGone_16 : decode cX3_heightsGone 16 = .ok (.istore_n 2, 1) := by decide +kernel
theorem dX3_heightsGone_17 : decode cX3_heightsGone 17 = .ok (.iload_n 2, 1) := by decide +kernel
theorem dX3_heightsGone_18 : decode cX3_heightsGone 18 = .ok (.iload_n 1, 1) := by decide +kernel
theorem dX3_heightsGone_19 : decode cX3_heightsGone 19 = .ok (.if_icmp .gt 63, 3) := by decide +kernel
theorem dX3_heightsGone_22 : decode cX3_heightsGone 22 = .ok (.aload_n 0, 1) := by decide +kernel
theorem dX3_heightsGone_23 : decode cX3_heightsGone 23 = .ok (.getfield 12, 3) := by decide +kernel
theorem dX3_heightsGone_26 : decode cX3_heightsGone 26 = .ok (.aload_n 0, 1) := by decide +kernel
theorem dX3_heightsGone_27 : decode cX3_heightsGone 27 = .ok (.getfield 28, 3) := by decide +kernel
theorem dX3_heightsGone_30 : decode cX3_heightsGone 30 = .ok (.invokevirtual 58, 3) := by decide +kernel
theorem dX3_heightsGone_33 : decode cX3_heightsGone 33 = .ok (.iconst 0, 1) := by decide +kernel
theorem dX3_heightsGone_34 : decode cX3_heightsGone 34 = .ok (.istore_n 3, 1) := by decide +kernel
theorem dX3_heightsGone_35 : decode cX3_heightsGone 35 = .ok (.iload_n 3, 1) := by decide +kernel
theorem dX3_heightsGone_36 : decode cX3_heightsGone 36 = .ok (.bipush 7, 2) := by decide +kernel
theorem dX3_heightsGone_38 : decode cX3_heightsGone 38 = .ok (.if_icmp .ge 38, 3) := by decide +kernel
theorem dX3_heightsGone_41 : decode cX3_heightsGone 41 = .ok (.iload_n 3, 1) := by decide +kernel
theorem dX3_heightsGone_42 : decode cX3_heightsGone 42 = .ok (.aload_n 0, 1) := by decide +kernel
theorem dX3_heightsGone_43 : decode cX3_heightsGone 43 = .ok (.getfield 25, 3) := by decide +kernel
theorem dX3_heightsGone_46 : decode cX3_heightsGone 46 = .ok (.getfield 73, 3) := by decide +kernel
theorem dX3_heightsGone_49 : decode cX3_heightsGone 49 = .ok (.if_icmp .ge 27, 3) := by decide +kernel
theorem dX3_heightsGone_52 : decode cX3_heightsGone 52 = .ok (.aload_n 0, 1) := by decide +kernel
theorem dX3_heightsGone_53 : decode cX3_heightsGone 53 = .ok (.getfield 18, 3) := by decide +kernel
theorem dX3_heightsGone_56 : decode cX3_heightsGone 56 = .ok (.iload_n 3, 1) := by decide +kernel
theorem dX3_heightsGone_57 : decode cX3_heightsGone 57 = .ok (.dup2, 1) := by decide +kernel
theorem dX3_heightsGone_58 : decode cX3_heightsGone 58 = .ok (.iaload, 1) := by decide +kernel
theorem dX3_heightsGone_59 : decode cX3_heightsGone 59 = .ok (.aload_n 0, 1) := by decide +kernel
theorem dX3_heightsGone_60 : decode cX3_heightsGone 60 = .ok (.getfield 12, 3) := by decide +kernel
theorem dX3_heightsGone_63 : decode cX3_heightsGone 63 = .ok (.getfield 104, 3) := by decide +kernel
theorem dX3_heightsGone_66 : decode cX3_heightsGone 66 = .ok (.iload_n 3, 1) := by decide +kernel
theorem dX3_heightsGone_67 : decode cX3_heightsGone 67 = .ok (.iaload, 1) := by decide +kernel
theorem dX3_heightsGone_68 : decode cX3_heightsGone 68 = .ok (.iadd, 1) := by decide +kernel
theorem dX3_heightsGone_69 : decode cX3_heightsGone 69 = .ok (.iastore, 1) := by decide +kernel
theorem dX3_heightsGone_70 : decode cX3_heightsGone 70 = .ok (.iinc 3 1, 3) := by decide +kernel
theorem dX3_heightsGone_73 : decode cX3_heightsGone 73 = .ok (.goto (-38), 3) := by decide +kernel
theorem dX3_heightsGone_76 : decode cX3_heightsGone 76 = .ok (.iinc 2 1, 3) := by decide +kernel
theorem dX3_heightsGone_79 : decode cX3_heightsGone 79 = .ok (.goto (-62), 3) := by decide +kernel
theorem dX3_heightsGone_82 : decode cX3_heightsGone 82 = .ok (.aload_n 0, 1) := by decide +kernel
theorem dX3_heightsGone_83 : decode cX3_heightsGone 83 = .ok (.getfield 32, 3) := by decide +kernel
theorem dX3_heightsGone_86 : decode cX3_heightsGone 86 = .ok (.aload_n 0, 1) := by decide +kernel
theorem dX3_heightsGone_87 : decode cX3_heightsGone 87 = .ok (.getfield 18, 3) := by decide +kernel
theorem dX3_heightsGone_90 : decode cX3_heightsGone 90 = .ok (.aload_n 0, 1) := by decide +kernel
theorem dX3_heightsGone_91 : decode cX3_heightsGone 91 = .ok (.getfield 25, 3) := by decide +kernel
theorem dX3_heightsGone_94 : decode cX3_heightsGone 94 = .ok (.getfield 73, 3) := by decide +kernel
theorem dX3_heightsGone_97 : decode cX3_heightsGone 97 = .ok (.invokevirtual 76, 3) := by decide +kernel
theorem dX3_heightsGone_100 : decode cX3_heightsGone 100 = .ok (.aload_n 0, 1) := by decide +kernel
theorem dX3_heightsGone_101 : decode cX3_heightsGone 101 = .ok (.getfield 25, 3) := by decide +kernel
theorem dX3_heightsGone_104 : decode cX3_heightsGone 104 = .ok (.aload_n 0, 1) := by decide +kernel
theorem dX3_heightsGone_105 : decode cX3_heightsGone 105 = .ok (.getfield 18, 3) := by decide +kernel
theorem dX3_heightsGone_108 : decode cX3_heightsGone 108 = .ok (.invokevirtual 107, 3) := by decide +kernel
theorem dX3_heightsGone_111 : decode cX3_heightsGone 111 = .ok (.ireturn, 1) := by decide +kernel
theorem dX4_init_0 : decode cX4_init 0 = .ok (.aload_n 0, 1) := by decide +kernel
theorem dX4_init_1 : decode cX4_init 1 = .ok (.invokespecial 3, 3) := by decide +kernel
theorem dX4_init_4 : decode cX4_init 4 = .ok (.aload_n 0, 1) := by decide +kernel
theorem dX4_init_5 : decode cX4_init 5 = .ok (.bipush 12, 2) := by decide +kernel
theorem dX4_init_7 : decode cX4_init 7 = .ok (.bipush 32, 2) := by decide +kernel
theorem dX4_init_9 : decode cX4_init 9 = .ok (.multianewarray 11 2, 4) := by decide +kernel
theorem dX4_init_13 : decode cX4_init 13 = .ok (.putfield 13, 3) := by decide +kernel
theorem dX4_init_16 : decode cX4_init 16 = .ok (.aload_n 0, 1) := by decide +kernel
theorem dX4_init_17 : decode cX4_init 17 = .ok (.iconst 2, 1) := by decide +kernel
theorem dX4_init_18 : decode cX4_init 18 = .ok (.bipush 32, 2) := by decide +kernel
theorem dX4_init_20 : decode cX4_init 20 = .ok (.multianewarray 11 2, 4) := by decide +kernel
theorem dX4_init_24 : decode cX4_init 24 = .ok (.putfield 16, 3) := by decide +kernel
theorem dX4_init_27 : decode cX4_init 27 = .ok (.aload_n 0, 1) := by decide +kernel
theorem dX4_init_28 : decode cX4_init 28 = .ok (.iconst 2, 1) := by decide +kernel
theorem dX4_init_29 : decode cX4_init 29 = .ok (.newarray .boolean, 2) := by decide +kernel
theorem dX4_init_31 : decode cX4_init 31 = .ok (.putfield 19, 3) := by decide +kernel
theorem dX4_init_34 : decode cX4_init 34 = .ok (.aload_n 0, 1) := by decide +kernel
theorem dX4_init_35 : decode cX4_init 35 = .ok (.bipush 32, 2) := by decide +kernel
theorem dX4_init_37 : decode cX4_init 37 = .ok (.newarray .int, 2) := by decide +kernel
theorem dX4_init_39 : decode cX4_init 39 = .ok (.putfield 23, 3) := by decide +kernel
theorem dX4_init_42 : decode cX4_init 42 = .ok (.aload_n 0, 1) := by decide +kernel
theorem dX4_init_43 : decode cX4_init 43 = .ok (.iconst 0, 1) := by decide +kernel
theorem dX4_init_44 : decode cX4_init 44 = .ok (.putfield 27, 3) := by decide +kernel
theorem dX4_init_47 : decode cX4_init 47 = .ok (.aload_n 0, 1) := by decide +kernel
theorem dX4_init_48 : decode cX4_init 48 = .ok (.iconst 0, 1) := by decide +kernel
theorem dX4_init_49 : decode cX4_init 49 = .ok (.putfield 31, 3) := by decide +kernel
theorem dX4_init_52 : decode cX4_init 52 = .ok (.return_, 1) := by decide +kernel
theorem dX4_note_0 : decode cX4_note 0 = .ok (.aload_n 1, 1) := by decide +kernel
theorem dX4_note_1 : decode cX4_note 1 = .ok (.aload_n 0, 1) := by decide +kernel
theorem dX4_note_2 : decode cX4_note 2 = .ok (.getfield 23, 3) := by decide +kernel
theorem dX4_note_5 : decode cX4_note 5 = .ok (.invokestatic 34, 3) := by decide +kernel
theorem dX4_note_8 : decode cX4_note 8 = .ok (.return_, 1) := by decide +kernel
theorem dX4_keepNoted_0 : decode cX4_keepNoted 0 = .ok (.aload_n 0, 1) := by decide +kernel
theorem dX4_keepNoted_1 : decode cX4_keepNoted 1 = .ok (.getfield 31, 3) := by decide +kernel
theorem dX4_keepNoted_4 : decode cX4_keepNoted 4 = .ok (.bipush 12, 2) := by decide +kernel
theorem dX4_keepNoted_6 : decode cX4_keepNoted 6 = .ok (.if_icmp .ge 16, 3) := by decide +kernel
theorem dX4_keepNoted_9 : decode cX4_keepNoted 9 = .ok (.aload_n 0, 1) := by decide +kernel
theorem dX4_keepNoted_10 : decode cX4_keepNoted 10 = .ok (.dup, 1) := by decide +kernel
theorem dX4_keepNoted_11 : decode cX4_keepNoted 11 = .ok (.getfield 31, 3) := by decide +kernel
theorem dX4_keepNoted_14 : decode cX4_keepNoted 14 = .ok (.iconst 1, 1) := by decide +kernel
theorem dX4_keepNoted_15 : decode cX4_keepNoted 15 = .ok (.iadd, 1) := by decide +kernel
theorem dX4_keepNoted_16 : decode cX4_keepNoted 16 = .ok (.putfield 31, 3) := by decide +kernel
theorem dX4_keepNoted_19 : decode cX4_keepNoted 19 = .ok (.goto 16, 3) := by decide +kernel
theorem dX4_keepNoted_22 : decode cX4_keepNoted 22 = .ok (.aload_n 0, 1) := by decide +kernel
theorem dX4_keepNoted_23 : decode cX4_keepNoted 23 = .ok (.aload_n 0, 1) := by decide +kernel
theorem dX4_keepNoted_24 : decode cX4_keepNoted 24 = .ok (.getfield 27, 3) := by decide +kernel
theorem dX4_keepNoted_27 : decode cX4_keepNoted 27 = .ok (.iconst 1, 1) := by decide +kernel
theorem dX4_keepNoted_28 : decode cX4_keepNoted 28 = .ok (.iadd, 1) := by decide +kernel
theorem dX4_keepNoted_29 : decode cX4_keepNoted 29 = .ok (.bipush 12, 2) := by decide +kernel
theorem dX4_keepNoted_31 : decode cX4_keepNoted 31 = .ok (.irem, 1) := by decide +kernel
theorem dX4_keepNoted_32 : decode cX4_keepNoted 32 = .ok (.putfield 27, 3) := by decide +kernel
theorem dX4_keepNoted_35 : decode cX4_keepNoted 35 = .ok (.aload_n 0, 1) := by decide +kernel
theorem dX4_keepNoted_36 : decode cX4_keepNoted 36 = .ok (.getfield 27, 3) := by decide +kernel
theorem dX4_keepNoted_39 : decode cX4_keepNoted 39 = .ok (.aload_n 0, 1) := by decide +kernel
theorem dX4_keepNoted_40 : decode cX4_keepNoted 40 = .ok (.getfield 31, 3) := by decide +kernel
theorem dX4_keepNoted_43 : decode cX4_keepNoted 43 = .ok (.iadd, 1) := by decide +kernel
theorem dX4_keepNoted_44 : decode cX4_keepNoted 44 = .ok (.iconst 1, 1) := by decide +kernel
theorem dX4_keepNoted_45 : decode cX4_keepNoted 45 = .ok (.isub, 1) := by decide +kernel
theorem dX4_keepNoted_46 : decode cX4_keepNoted 46 = .ok (.bipush 12, 2) := by decide +kernel
theorem dX4_keepNoted_48 : decode cX4_keepNoted 48 = .ok (.irem, 1) := by decide +kernel
theorem dX4_keepNoted_49 : decode cX4_keepNoted 49 = .ok (.istore_n 1, 1) := by decide +kernel
theorem dX4_keepNoted_50 : decode cX4_keepNoted 50 = .ok (.iload_n 1, 1) := by decide +kernel
theorem dX4_keepNoted_51 : decode cX4_keepNoted 51 = .ok (.ifCond .lt 26, 3) := by decide +kernel
theorem dX4_keepNoted_54 : decode cX4_keepNoted 54 = .ok (.iload_n 1, 1) := by decide +kernel
theorem dX4_keepNoted_55 : decode cX4_keepNoted 55 = .ok (.bipush 12, 2) := by decide +kernel
theorem dX4_keepNoted_57 : decode cX4_keepNoted 57 = .ok (.if_icmp .ge 20, 3) := by decide +kernel
theorem dX4_keepNoted_60 : decode cX4_keepNoted 60 = .ok (.aload_n 0, 1) := by decide +kernel
theorem dX4_keepNoted_61 : decode cX4_keepNoted 61 = .ok (.getfield 23, 3) := by decide +kernel
theorem dX4_keepNoted_64 : decode cX4_keepNoted 64 = .ok (.iconst 0, 1) := by decide +kernel
theorem dX4_keepNoted_65 : decode cX4_keepNoted 65 = .ok (.aload_n 0, 1) := by decide +kernel
theorem dX4_keepNoted_66 : decode cX4_keepNoted 66 = .ok (.getfield 13, 3) := by decide +kernel
theorem dX4_keepNoted_69 : decode cX4_keepNoted 69 = .ok (.iload_n 1, 1) := by decide +kernel
theorem dX4_keepNoted_70 : decode cX4_keepNoted 70 = .ok (.aaload, 1) := by decide +kernel
theorem dX4_keepNoted_71 : decode cX4_keepNoted 71 = .ok (.iconst 0, 1) := by decide +kernel
theorem dX4_keepNoted_72 : decode cX4_keepNoted 72 = .ok (.bipush 32, 2) := by decide +kernel
theorem dX4_keepNoted_74 : decode cX4_keepNoted 74 = .ok (.invokestatic 38, 3) := by decide +kernel
theorem dX4_keepNoted_77 : decode cX4_keepNoted 77 = .ok (.return_, 1) := by decide +kernel
theorem dX4_takeBack_0 : decode cX4_takeBack 0 = .ok (.aload_n 0, 1) := by decide +kernel
theorem dX4_takeBack_1 : decode cX4_takeBack 1 = .ok (.getfield 27, 3) := by decide +kernel
theorem dX4_takeBack_4 : decode cX4_takeBack 4 = .ok (.aload_n 0, 1) := by decide +kernel
theorem dX4_takeBack_5 : decode cX4_takeBack 5 = .ok (.getfield 31, 3) := by decide +kernel
theorem dX4_takeBack_8 : decode cX4_takeBack 8 = .ok (.iadd, 1) := by decide +kernel
theorem dX4_takeBack_9 : decode cX4_takeBack 9 = .ok (.iconst 1, 1) := by decide +kernel
theorem dX4_takeBack_10 : decode cX4_takeBack 10 = .ok (.isub, 1) := by decide +kernel
theorem dX4_takeBack_11 : decode cX4_takeBack 11 = .ok (.bipush 12, 2) := by decide +kernel
theorem dX4_takeBack_13 : decode cX4_takeBack 13 = .ok (.irem, 1) := by decide +kernel
theorem dX4_takeBack_14 : decode cX4_takeBack 14 = .ok (.istore_n 2, 1) := by decide +kernel
theorem dX4_takeBack_15 : decode cX4_takeBack 15 = .ok (.aload_n 0, 1) := by decide +kernel
theorem dX4_takeBack_16 : decode cX4_takeBack 16 = .ok (.getfield 31, 3) := by decide +kernel
theorem dX4_takeBack_19 : decode cX4_takeBack 19 = .ok (.iconst 1, 1) := by decide +kernel
theorem dX4_takeBack_20 : decode cX4_takeBack 20 = .ok (.if_icmp .lt 13, 3) := by decide +kernel
theorem dX4_takeBack_23 : decode cX4_takeBack 23 = .ok (.iload_n 2, 1) := by decide +kernel
theorem dX4_takeBack_24 : decode cX4_takeBack 24 = .ok (.ifCond .lt 9, 3) := by decide +kernel
theorem dX4_takeBack_27 : decode cX4_takeBack 27 = .ok (.iload_n 2, 1) := by decide +kernel
theorem dX4_takeBack_28 : decode cX4_takeBack 28 = .ok (.bipush 12, 2) := by decide +kernel
theorem dX4_takeBack_30 : decode cX4_takeBack 30 = .ok (.if_icmp .lt 5, 3) := by decide +kernel
theorem dX4_takeBack_33 : decode cX4_takeBack 33 = .ok (.iconst (-1), 1) := by decide +kernel
theorem dX4_takeBack_34 : decode cX4_takeBack 34 = .ok (.ireturn, 1) := by decide +kernel
theorem dX4_takeBack_35 : decode cX4_takeBack 35 = .ok (.aload_n 0, 1) := by decide +kernel
theorem dX4_takeBack_36 : decode cX4_takeBack 36 = .ok (.getfield 13, 3) := by decide +kernel
theorem dX4_takeBack_39 : decode cX4_takeBack 39 = .ok (.iload_n 2, 1) := by decide +kernel
theorem dX4_takeBack_40 : decode cX4_takeBack 40 = .ok (.aaload, 1) := by decide +kernel
theorem dX4_takeBack_41 : decode cX4_takeBack 41 = .ok (.aload_n 1, 1) := by decide +kernel
theorem dX4_takeBack_42 : decode cX4_takeBack 42 = .ok (.invokestatic 44, 3) := by decide +kernel
theorem dX4_takeBack_45 : decode cX4_takeBack 45 = .ok (.aload_n 0, 1) := by decide +kernel
theorem dX4_takeBack_46 : decode cX4_takeBack 46 = .ok (.dup, 1) := by decide +kernel
theorem dX4_takeBack_47 : decode cX4_takeBack 47 = .ok (.getfield 31, 3) := by decide +kernel
theorem dX4_takeBack_50 : decode cX4_takeBack 50 = .ok (.iconst 1, 1) := by decide +kernel
theorem dX4_takeBack_51 : decode cX4_takeBack 51 = .ok (.isub, 1) := by decide +kernel
theorem dX4_takeBack_52 : decode cX4_takeBack 52 = .ok (.putfield 31, 3) := by decide +kernel
theorem dX4_takeBack_55 : decode cX4_takeBack 55 = .ok (.aload_n 0, 1) := by decide +kernel
theorem dX4_takeBack_56 : decode cX4_takeBack 56 = .ok (.getfield 31, 3) := by decide +kernel
theorem dX4_takeBack_59 : decode cX4_takeBack 59 = .ok (.ireturn, 1) := by decide +kernel
theorem dX4_keepAs_0 : decode cX4_keepAs 0 = .ok (.iload_n 1, 1) := by decide +kernel
theorem dX4_keepAs_1 : decode cX4_keepAs 1 = .ok (.ifCond .lt 8, 3) := by decide +kernel
theorem dX4_keepAs_4 : decode cX4_keepAs 4 = .ok (.iload_n 1, 1) := by decide +kernel
theorem dX4_keepAs_5 : decode cX4_keepAs 5 = .ok (.iconst 2, 1) := by decide +kernel
theorem dX4_keepAs_6 : decode cX4_keepAs 6 = .ok (.if_icmp .lt 5, 3) := by decide +kernel
theorem dX4_keepAs_9 : decode cX4_keepAs 9 = .ok (.iconst 0, 1) := by decide +kernel
theorem dX4_keepAs_10 : decode cX4_keepAs 10 = .ok (.ireturn, 1) := by decide +kernel
theorem dX4_keepAs_11 : decode cX4_keepAs 11 = .ok (.aload_n 2, 1) := by decide +kernel
theorem dX4_keepAs_12 : decode cX4_keepAs 12 = .ok (.aload_n 0, 1) := by decide +kernel
theorem dX4_keepAs_13 : decode cX4_keepAs 13 = .ok (.getfield 16, 3) := by decide +kernel
theorem dX4_keepAs_16 : decode cX4_keepAs 16 = .ok (.iload_n 1, 1) := by decide +kernel
theorem dX4_keepAs_17 : decode cX4_keepAs 17 = .ok (.aaload, 1) := by decide +kernel
theorem dX4_keepAs_18 : decode cX4_keepAs 18 = .ok (.invokestatic 34, 3) := by decide +kernel
theorem dX4_keepAs_21 : decode cX4_keepAs 21 = .ok (.aload_n 0, 1) := by decide +kernel
theorem dX4_keepAs_22 : decode cX4_keepAs 22 = .ok (.getfield 19, 3) := by decide +kernel
theorem dX4_keepAs_25 : decode cX4_keepAs 25 = .ok (.iload_n 1, 1) := by decide +kernel
theorem dX4_keepAs_26 : decode cX4_keepAs 26 = .ok (.iconst 1, 1) := by decide +kernel
theorem dX4_keepAs_27 : decode cX4_keepAs 27 = .ok (.bastore, 1) := by decide +kernel
theorem dX4_keepAs_28 : decode cX4_keepAs 28 = .ok (.iconst 1, 1) := by decide +kernel
theorem dX4_keepAs_29 : decode cX4_keepAs 29 = .ok (.ireturn, 1) := by decide +kernel
theorem dX4_bringBack_0 : decode cX4_bringBack 0 = .ok (.iload_n 1, 1) := by decide +kernel
theorem dX4_bringBack_1 : decode cX4_bringBack 1 = .ok (.ifCond .lt 17, 3) := by decide +kernel
theorem dX4_bringBack_4 : decode cX4_bringBack 4 = .ok (.iload_n 1, 1) := by decide +kernel
theorem dX4_bringBack_5 : decode cX4_bringBack 5 = .ok (.iconst 2, 1) := by decide +kernel
theorem dX4_bringBack_6 : decode cX4_bringBack 6 = .ok (.if_icmp .ge 12, 3) := by decide +kernel
theorem dX4_bringBack_9 : decode cX4_bringBack 9 = .ok (.aload_n 0, 1) := by decide +kernel
theorem dX4_bringBack_10 : decode cX4_bringBack 10 = .ok (.getfield 19, 3) := by decide +kernel
theorem dX4_bringBack_13 : decode cX4_bringBack 13 = .ok (.iload_n 1, 1) := by decide +kernel
theorem dX4_bringBack_14 : decode cX4_bringBack 14 = .ok (.baload, 1) := by decide +kernel
theorem dX4_bringBack_15 : decode cX4_bringBack 15 = .ok (.ifCond .ne 5, 3) := by decide +kernel
theorem dX4_bringBack_18 : decode cX4_bringBack 18 = .ok (.iconst 0, 1) := by decide +kernel
theorem dX4_bringBack_19 : decode cX4_bringBack 19 = .ok (.ireturn, 1) := by decide +kernel
theorem dX4_bringBack_20 : decode cX4_bringBack 20 = .ok (.aload_n 0, 1) := by decide +kernel
theorem dX4_bringBack_21 : decode cX4_bringBack 21 = .ok (.getfield 16, 3) := by decide +kernel
theorem dX4_bringBack_24 : decode cX4_bringBack 24 = .ok (.iload_n 1, 1) := by decide +kernel
theorem dX4_bringBack_25 : decode cX4_bringBack 25 = .ok (.aaload, 1) := by decide +kernel
theorem dX4_bringBack_26 : decode cX4_bringBack 26 = .ok (.aload_n 2, 1) := by decide +kernel
theorem dX4_bringBack_27 : decode cX4_bringBack 27 = .ok (.invokestatic 44, 3) := by decide +kernel
theorem dX4_bringBack_30 : decode cX4_bringBack 30 = .ok (.aload_n 0, 1) := by decide +kernel
theorem dX4_bringBack_31 : decode cX4_bringBack 31 = .ok (.iconst 0, 1) := by decide +kernel
theorem dX4_bringBack_32 : decode cX4_bringBack 32 = .ok (.putfield 31, 3) := by decide +kernel
theorem dX4_bringBack_35 : decode cX4_bringBack 35 = .ok (.iconst 1, 1) := by decide +kernel
theorem dX4_bringBack_36 : decode cX4_bringBack 36 = .ok (.ireturn, 1) := by decide +kernel
theorem dX4_forgetAll_0 : decode cX4_forgetAll 0 = .ok (.aload_n 0, 1) := by decide +kernel
theorem dX4_forgetAll_1 : decode cX4_forgetAll 1 = .ok (.iconst 0, 1) := by decide +kernel
theorem dX4_forgetAll_2 : decode cX4_forgetAll 2 = .ok (.putfield 31, 3) := by decide +kernel
theorem dX4_forgetAll_5 : decode cX4_forgetAll 5 = .ok (.iconst 0, 1) := by decide +kernel
theorem dX4_forgetAll_6 : decode cX4_forgetAll 6 = .ok (.istore_n 1, 1) := by decide +kernel
theorem dX4_forgetAll_7 : decode cX4_forgetAll 7 = .ok (.iload_n 1, 1) := by decide +kernel
theorem dX4_forgetAll_8 : decode cX4_forgetAll 8 = .ok (.iconst 2, 1) := by decide +kernel
theorem dX4_forgetAll_9 : decode cX4_forgetAll 9 = .ok (.if_icmp .ge 16, 3) := by decide +kernel
theorem dX4_forgetAll_12 : decode cX4_forgetAll 12 = .ok (.aload_n 0, 1) := by decide +kernel
theorem dX4_forgetAll_13 : decode cX4_forgetAll 13 = .ok (.getfield 19, 3) := by decide +kernel
theorem dX4_forgetAll_16 : decode cX4_forgetAll 16 = .ok (.iload_n 1, 1) := by decide +kernel
theorem dX4_forgetAll_17 : decode cX4_forgetAll 17 = .ok (.iconst 0, 1) := by decide +kernel
theorem dX4_forgetAll_18 : decode cX4_forgetAll 18 = .ok (.bastore, 1) := by decide +kernel
theorem dX4_forgetAll_19 : decode cX4_forgetAll 19 = .ok (.iinc 1 1, 3) := by decide +kernel
theorem dX4_forgetAll_22 : decode cX4_forgetAll 22 = .ok (.goto (-15), 3) := by decide +kernel
theorem dX4_forgetAll_25 : decode cX4_forgetAll 25 = .ok (.return_, 1) := by decide +kernel
theorem dX4_write_0 : decode cX4_write 0 = .ok (.aload_n 1, 1) := by decide +kernel
theorem dX4_write_1 : decode cX4_write 1 = .ok (.arraylength, 1) := by decide +kernel
theorem dX4_write_2 : decode cX4_write 2 = .ok (.bipush 32, 2) := by decide +kernel
theorem dX4_write_4 : decode cX4_write 4 = .ok (.if_icmp .ge 4, 3) := by decide +kernel
theorem dX4_write_7 : decode cX4_write 7 = .ok (.return_, 1) := by decide +kernel
theorem dX4_write_8 : decode cX4_write 8 = .ok (.aload_n 1, 1) := by decide +kernel
theorem dX4_write_9 : decode cX4_write 9 = .ok (.iconst 0, 1) := by decide +kernel
theorem dX4_write_10 : decode cX4_write 10 = .ok (.aload_n 0, 1) := by decide +kernel
theorem dX4_write_11 : decode cX4_write 11 = .ok (.getfield 48, 3) := by decide +kernel
theorem dX4_write_14 : decode cX4_write 14 = .ok (.iastore, 1) := by decide +kernel
theorem dX4_write_15 : decode cX4_write 15 = .ok (.aload_n 1, 1) := by decide +kernel
theorem dX4_write_16 : decode cX4_write 16 = .ok (.iconst 1, 1) := by decide +kernel
theorem dX4_write_17 : decode cX4_write 17 = .ok (.aload_n 0, 1) := by decide +kernel
theorem dX4_write_18 : decode cX4_write 18 = .ok (.getfield 53, 3) := by decide +kernel
theorem dX4_write_21 : decode cX4_write 21 = .ok (.iastore, 1) := by decide +kernel
theorem dX4_write_22 : decode cX4_write 22 = .ok (.aload_n 1, 1) := by decide +kernel
theorem dX4_write_23 : decode cX4_write 23 = .ok (.iconst 2, 1) := by decide +kernel
theorem dX4_write_24 : decode cX4_write 24 = .ok (.aload_n 0, 1) := by decide +kernel
theorem dX4_write_25 : decode cX4_write 25 = .ok (.getfield 56, 3) := by decide +kernel
theorem dX4_write_28 : decode cX4_write 28 = .ok (.iastore, 1) := by decide +kernel
theorem dX4_write_29 : decode cX4_write 29 = .ok (.aload_n 1, 1) := by decide +kernel
theorem dX4_write_30 : decode cX4_write 30 = .ok (.iconst 3, 1) := by decide +kernel
theorem dX4_write_31 : decode cX4_write 31 = .ok (.aload_n 0, 1) := by decide +kernel
theorem dX4_write_32 : decode cX4_write 32 = .ok (.getfield 59, 3) := by decide +kernel
theorem dX4_write_35 : decode cX4_write 35 = .ok (.iastore, 1) := by decide +kernel
theorem dX4_write_36 : decode cX4_write 36 = .ok (.iconst 0, 1) := by decide +kernel
theorem dX4_write_37 : decode cX4_write 37 = .ok (.istore_n 2, 1) := by decide +kernel
theorem dX4_write_38 : decode cX4_write 38 = .ok (.iload_n 2, 1) := by decide +kernel
theorem dX4_write_39 : decode cX4_write 39 = .ok (.bipush 7, 2) := by decide +kernel
theorem dX4_write_41 : decode cX4_write 41 = .ok (.if_icmp .ge 63, 3) := by decide +kernel
theorem dX4_write_44 : decode cX4_write 44 = .ok (.aload_n 1, 1) := by decide +kernel
theorem dX4_write_45 : decode cX4_write 45 = .ok (.iconst 4, 1) := by decide +kernel
theorem dX4_write_46 : decode cX4_write 46 = .ok (.iconst 4, 1) := by decide +kernel
theorem dX4_write_47 : decode cX4_write 47 = .ok (.iload_n 2, 1) := by decide +kernel
theorem dX4_write_48 : decode cX4_write 48 = .ok (.imul, 1) := by decide +kernel
theorem dX4_write_49 : decode cX4_write 49 = .ok (.iadd, 1) := by decide +kernel
theorem dX4_write_50 : decode cX4_write 50 = .ok (.aload_n 0, 1) := by decide +kernel
theorem dX4_write_51 : decode cX4_write 51 = .ok (.getfield 62, 3) := by decide +kernel
theorem dX4_write_54 : decode cX4_write 54 = .ok (.iload_n 2, 1) := by decide +kernel
theorem dX4_write_55 : decode cX4_write 55 = .ok (.iaload, 1) := by decide +kernel
theorem dX4_write_56 : decode cX4_write 56 = .ok (.iastore, 1) := by decide +kernel
theorem dX4_write_57 : decode cX4_write 57 = .ok (.aload_n 1, 1) := by decide +kernel
theorem dX4_write_58 : decode cX4_write 58 = .ok (.iconst 5, 1) := by decide +kernel
theorem dX4_write_59 : decode cX4_write 59 = .ok (.iconst 4, 1) := by decide +kernel
theorem dX4_write_60 : decode cX4_write 60 = .ok (.iload_n 2, 1) := by decide +kernel
theorem dX4_write_61 : decode cX4_write 61 = .ok (.imul, 1) := by decide +kernel
theorem dX4_write_62 : decode cX4_write 62 = .ok (.iadd, 1) := by decide +kernel
theorem dX4_write_63 : decode cX4_write 63 = .ok (.aload_n 0, 1) := by decide +kernel
theorem dX4_write_64 : decode cX4_write 64 = .ok (.getfield 65, 3) := by decide +kernel
theorem dX4_write_67 : decode cX4_write 67 = .ok (.iload_n 2, 1) := by decide +kernel
theorem dX4_write_68 : decode cX4_write 68 = .ok (.iaload, 1) := by decide +kernel
theorem dX4_write_69 : decode cX4_write 69 = .ok (.iastore, 1) := by decide +kernel
theorem dX4_write_70 : decode cX4_write 70 = .ok (.aload_n 1, 1) := by decide +kernel
theorem dX4_write_71 : decode cX4_write 71 = .ok (.bipush 6, 2) := by decide +kernel
theorem dX4_write_73 : decode cX4_write 73 = .ok (.iconst 4, 1) := by decide +kernel
theorem dX4_write_74 : decode cX4_write 74 = .ok (.iload_n 2, 1) := by decide +kernel
theorem dX4_write_75 : decode cX4_write 75 = .ok (.imul, 1) := by decide +kernel
theorem dX4_write_76 : decode cX4_write 76 = .ok (.iadd, 1) := by decide +kernel
theorem dX4_write_77 : decode cX4_write 77 = .ok (.aload_n 0, 1) := by decide +kernel
theorem dX4_write_78 : decode cX4_write 78 = .ok (.getfield 68, 3) := by decide +kernel
theorem dX4_write_81 : decode cX4_write 81 = .ok (.iload_n 2, 1) := by decide +kernel
theorem dX4_write_82 : decode cX4_write 82 = .ok (.iaload, 1) := by decide +kernel
theorem dX4_write_83 : decode cX4_write 83 = .ok (.iastore, 1) := by decide +kernel
theorem dX4_write_84 : decode cX4_write 84 = .ok (.aload_n 1, 1) := by decide +kernel
theorem dX4_write_85 : decode cX4_write 85 = .ok (.bipush 7, 2) := by decide +kernel
theorem dX4_write_87 : decode cX4_write 87 = .ok (.iconst 4, 1) := by decide +kernel
theorem dX4_write_88 : decode cX4_write 88 = .ok (.iload_n 2, 1) := by decide +kernel
theorem dX4_write_89 : decode cX4_write 89 = .ok (.imul, 1) := by decide +kernel
theorem dX4_write_90 : decode cX4_write 90 = .ok (.iadd, 1) := by decide +kernel
theorem dX4_write_91 : decode cX4_write 91 = .ok (.aload_n 0, 1) := by decide +kernel
theorem dX4_write_92 : decode cX4_write 92 = .ok (.getfield 71, 3) := by decide +kernel
theorem dX4_write_95 : decode cX4_write 95 = .ok (.iload_n 2, 1) := by decide +kernel
theorem dX4_write_96 : decode cX4_write 96 = .ok (.iaload, 1) := by decide +kernel
theorem dX4_write_97 : decode cX4_write 97 = .ok (.iastore, 1) := by decide +kernel
theorem dX4_write_98 : decode cX4_write 98 = .ok (.iinc 2 1, 3) := by decide +kernel
theorem dX4_write_101 : decode cX4_write 101 = .ok (.goto (-63), 3) := by decide +kernel
theorem dX4_write_104 : decode cX4_write 104 = .ok (.return_, 1) := by decide +kernel
theorem dX4_read_0 : decode cX4_read 0 = .ok (.aload_n 0, 1) := by decide +kernel
theorem dX4_read_1 : decode cX4_read 1 = .ok (.arraylength, 1) := by decide +kernel
theorem dX4_read_2 : decode cX4_read 2 = .ok (.bipush 32, 2) := by decide +kernel
theorem dX4_read_4 : decode cX4_read 4 = .ok (.if_icmp .ge 4, 3) := by decide +kernel
theorem dX4_read_7 : decode cX4_read 7 = .ok (.return_, 1) := by decide +kernel
theorem dX4_read_8 : decode cX4_read 8 = .ok (.aload_n 1, 1) := by decide +kernel
theorem dX4_read_9 : decode cX4_read 9 = .ok (.aload_n 0, 1) := by decide +kernel
theorem dX4_read_10 : decode cX4_read 10 = .ok (.iconst 0, 1) := by decide +kernel
theorem dX4_read_11 : decode cX4_read 11 = .ok (.iaload, 1) := by decide +kernel
theorem dX4_read_12 : decode cX4_read 12 = .ok (.putfield 48, 3) := by decide +kernel
theorem dX4_read_15 : decode cX4_read 15 = .ok (.aload_n 1, 1) := by decide +kernel
theorem dX4_read_16 : decode cX4_read 16 = .ok (.aload_n 0, 1) := by decide +kernel
theorem dX4_read_17 : decode cX4_read 17 = .ok (.iconst 1, 1) := by decide +kernel
theorem dX4_read_18 : decode cX4_read 18 = .ok (.iaload, 1) := by decide +kernel
theorem dX4_read_19 : decode cX4_read 19 = .ok (.putfield 53, 3) := by decide +kernel
theorem dX4_read_22 : decode cX4_read 22 = .ok (.aload_n 1, 1) := by decide +kernel
theorem dX4_read_23 : decode cX4_read 23 = .ok (.aload_n 0, 1) := by decide +kernel
theorem dX4_read_24 : decode cX4_read 24 = .ok (.iconst 2, 1) := by decide +kernel
theorem dX4_read_25 : decode cX4_read 25 = .ok (.iaload, 1) := by decide +kernel
theorem dX4_read_26 : decode cX4_read 26 = .ok (.putfield 56, 3) := by decide +kernel
theorem dX4_read_29 : decode cX4_read 29 = .ok (.aload_n 1, 1) := by decide +kernel
theorem dX4_read_30 : decode cX4_read 30 = .ok (.aload_n 0, 1) := by decide +kernel
theorem dX4_read_31 : decode cX4_read 31 = .ok (.iconst 3, 1) := by decide +kernel
theorem dX4_read_32 : decode cX4_read 32 = .ok (.iaload, 1) := by decide +kernel
theorem dX4_read_33 : decode cX4_read 33 = .ok (.putfield 59, 3) := by decide +kernel
theorem dX4_read_36 : decode cX4_read 36 = .ok (.iconst 0, 1) := by decide +kernel
theorem dX4_read_37 : decode cX4_read 37 = .ok (.istore_n 2, 1) := by decide +kernel
theorem dX4_read_38 : decode cX4_read 38 = .ok (.iload_n 2, 1) := by decide +kernel
theorem dX4_read_39 : decode cX4_read 39 = .ok (.bipush 7, 2) := by decide +kernel
theorem dX4_read_41 : decode cX4_read 41 = .ok (.if_icmp .ge 63, 3) := by decide +kernel
theorem dX4_read_44 : decode cX4_read 44 = .ok (.aload_n 1, 1) := by decide +kernel
theorem dX4_read_45 : decode cX4_read 45 = .ok (.getfield 62, 3) := by decide +kernel
theorem dX4_read_48 : decode cX4_read 48 = .ok (.iload_n 2, 1) := by decide +kernel
theorem dX4_read_49 : decode cX4_read 49 = .ok (.aload_n 0, 1) := by decide +kernel
theorem dX4_read_50 : decode cX4_read 50 = .ok (.iconst 4, 1) := by decide +kernel
theorem dX4_read_51 : decode cX4_read 51 = .ok (.iconst 4, 1) := by decide +kernel
theorem dX4_read_52 : decode cX4_read 52 = .ok (.iload_n 2, 1) := by decide +kernel
theorem dX4_read_53 : decode cX4_read 53 = .ok (.imul, 1) := by decide +kernel
theorem dX4_read_54 : decode cX4_read 54 = .ok (.iadd, 1) := by decide +kernel
theorem dX4_read_55 : decode cX4_read 55 = .ok (.iaload, 1) := by decide +kernel
theorem dX4_read_56 : decode cX4_read 56 = .ok (.iastore, 1) := by decide +kernel
theorem dX4_read_57 : decode cX4_read 57 = .ok (.aload_n 1, 1) := by decide +kernel
theorem dX4_read_58 : decode cX4_read 58 = .ok (.getfield 65, 3) := by decide +kernel
theorem dX4_read_61 : decode cX4_read 61 = .ok (.iload_n 2, 1) := by decide +kernel
theorem dX4_read_62 : decode cX4_read 62 = .ok (.aload_n 0, 1) := by decide +kernel
theorem dX4_read_63 : decode cX4_read 63 = .ok (.iconst 5, 1) := by decide +kernel
theorem dX4_read_64 : decode cX4_read 64 = .ok (.iconst 4, 1) := by decide +kernel
theorem dX4_read_65 : decode cX4_read 65 = .ok (.iload_n 2, 1) := by decide +kernel
theorem dX4_read_66 : decode cX4_read 66 = .ok (.imul, 1) := by decide +kernel
theorem dX4_read_67 : decode cX4_read 67 = .ok (.iadd, 1) := by decide +kernel
theorem dX4_read_68 : decode cX4_read 68 = .ok (.iaload, 1) := by decide +kernel
theorem dX4_read_69 : decode cX4_read 69 = .ok (.iastore, 1) := by decide +kernel
theorem dX4_read_70 : decode cX4_read 70 = .ok (.aload_n 1, 1) := by decide +kernel
theorem dX4_read_71 : decode cX4_read 71 = .ok (.getfield 68, 3) := by decide +kernel
theorem dX4_read_74 : decode cX4_read 74 = .ok (.iload_n 2, 1) := by decide +kernel
theorem dX4_read_75 : decode cX4_read 75 = .ok (.aload_n 0, 1) := by decide +kernel
theorem dX4_read_76 : decode cX4_read 76 = .ok (.bipush 6, 2) := by decide +kernel
theorem dX4_read_78 : decode cX4_read 78 = .ok (.iconst 4, 1) := by decide +kernel
theorem dX4_read_79 : decode cX4_read 79 = .ok (.iload_n 2, 1) := by decide +kernel
theorem dX4_read_80 : decode cX4_read 80 = .ok (.imul, 1) := by decide +kernel
theorem dX4_read_81 : decode cX4_read 81 = .ok (.iadd, 1) := by decide +kernel
theorem dX4_read_82 : decode cX4_read 82 = .ok (.iaload, 1) := by decide +kernel
theorem dX4_read_83 : decode cX4_read 83 = .ok (.iastore, 1) := by decide +kernel
theorem dX4_read_84 : decode cX4_read 84 = .ok (.aload_n 1, 1) := by decide +kernel
theorem dX4_read_85 : decode cX4_read 85 = .ok (.getfield 71, 3) := by decide +kernel
theorem dX4_read_88 : decode cX4_read 88 = .ok (.iload_n 2, 1) := by decide +kernel
theorem dX4_read_89 : decode cX4_read 89 = .ok (.aload_n 0, 1) := by decide +kernel
theorem dX4_read_90 : decode cX4_read 90 = .ok (.bipush 7, 2) := by decide +kernel
theorem dX4_read_92 : decode cX4_read 92 = .ok (.iconst 4, 1) := by decide +kernel
theorem dX4_read_93 : decode cX4_read 93 = .ok (.iload_n 2, 1) := by decide +kernel
theorem dX4_read_94 : decode cX4_read 94 = .ok (.imul, 1) := by decide +kernel
theorem dX4_read_95 : decode cX4_read 95 = .ok (.iadd, 1) := by decide +kernel
theorem dX4_read_96 : decode cX4_read 96 = .ok (.iaload, 1) := by decide +kernel
theorem dX4_read_97 : decode cX4_read 97 = .ok (.iastore, 1) := by decide +kernel
theorem dX4_read_98 : decode cX4_read 98 = .ok (.iinc 2 1, 3) := by decide +kernel
theorem dX4_read_101 : decode cX4_read 101 = .ok (.goto (-63), 3) := by decide +kernel
theorem dX4_read_104 : decode cX4_read 104 = .ok (.return_, 1) := by decide +kernel
theorem dX5_init_0 : decode cX5_init 0 = .ok (.aload_n 0, 1) := by decide +kernel
theorem dX5_init_1 : decode cX5_init 1 = .ok (.invokespecial 3, 3) := by decide +kernel
theorem dX5_init_4 : decode cX5_init 4 = .ok (.aload_n 0, 1) := by decide +kernel
theorem dX5_init_5 : decode cX5_init 5 = .ok (.new 9, 3) := by decide +kernel
theorem dX5_init_8 : decode cX5_init 8 = .ok (.dup, 1) := by decide +kernel
theorem dX5_init_9 : decode cX5_init 9 = .ok (.invokespecial 11, 3) := by decide +kernel
theorem dX5_init_12 : decode cX5_init 12 = .ok (.putfield 12, 3) := by decide +kernel
theorem dX5_init_15 : decode cX5_init 15 = .ok (.aload_n 0, 1) := by decide +kernel
theorem dX5_init_16 : decode cX5_init 16 = .ok (.iconst 0, 1) := by decide +kernel
theorem dX5_init_17 : decode cX5_init 17 = .ok (.putfield 18, 3) := by decide +kernel
theorem dX5_init_20 : decode cX5_init 20 = .ok (.aload_n 0, 1) := by decide +kernel
theorem dX5_init_21 : decode cX5_init 21 = .ok (.aload_n 1, 1) := by decide +kernel
theorem dX5_init_22 : decode cX5_init 22 = .ok (.putfield 22, 3) := by decide +kernel
theorem dX5_init_25 : decode cX5_init 25 = .ok (.aload_n 0, 1) := by decide +kernel
theorem dX5_init_26 : decode cX5_init 26 = .ok (.aload_n 2, 1) := by decide +kernel
theorem dX5_init_27 : decode cX5_init 27 = .ok (.putfield 25, 3) := by decide +kernel
theorem dX5_init_30 : decode cX5_init 30 = .ok (.aload_n 0, 1) := by decide +kernel
theorem dX5_init_31 : decode cX5_init 31 = .ok (.aload_n 3, 1) := by decide +kernel
theorem dX5_init_32 : decode cX5_init 32 = .ok (.putfield 29, 3) := by decide +kernel
theorem dX5_init_35 : decode cX5_init 35 = .ok (.return_, 1) := by decide +kernel
theorem dX5_hoursOwned_0 : decode cX5_hoursOwned 0 = .ok (.iconst 0, 1) := by decide +kernel
theorem dX5_hoursOwned_1 : decode cX5_hoursOwned 1 = .ok (.istore_n 3, 1) := by decide +kernel
theorem dX5_hoursOwned_2 : decode cX5_hoursOwned 2 = .ok (.iconst 1, 1) := by decide +kernel
theorem dX5_hoursOwned_3 : decode cX5_hoursOwned 3 = .ok (.istore 4, 2) := by decide +kernel
theorem dX5_hoursOwned_5 : decode cX5_hoursOwned 5 = .ok (.iload 4, 2) := by decide +kernel
theorem dX5_hoursOwned_7 : decode cX5_hoursOwned 7 = .ok (.iload_n 2, 1) := by decide +kernel
theorem dX5_hoursOwned_8 : decode cX5_hoursOwned 8 = .ok (.if_icmp .gt 34, 3) := by decide +kernel
theorem dX5_hoursOwned_11 : decode cX5_hoursOwned 11 = .ok (.aload_n 0, 1) := by decide +kernel
theorem dX5_hoursOwned_12 : decode cX5_hoursOwned 12 = .ok (.getfield 12, 3) := by decide +kernel
theorem dX5_hoursOwned_15 : decode cX5_hoursOwned 15 = .ok (.aload_n 0, 1) := by decide +kernel
theorem dX5_hoursOwned_16 : decode cX5_hoursOwned 16 = .ok (.getfield 25, 3) := by decide +kernel
theorem dX5_hoursOwned_19 : decode cX5_hoursOwned 19 = .ok (.invokevirtual 33, 3) := by decide +kernel
theorem dX5_hoursOwned_22 : decode cX5_hoursOwned 22 = .ok (.aload_n 0, 1) := by decide +kernel
theorem dX5_hoursOwned_23 : decode cX5_hoursOwned 23 = .ok (.getfield 12, 3) := by decide +kernel
theorem dX5_hoursOwned_26 : decode cX5_hoursOwned 26 = .ok (.getfield 37, 3) := by decide +kernel
theorem dX5_hoursOwned_29 : decode cX5_hoursOwned 29 = .ok (.iload_n 1, 1) := by decide +kernel
theorem dX5_hoursOwned_30 : decode cX5_hoursOwned 30 = .ok (.if_icmp .ne 6, 3) := by decide +kernel
theorem dX5_hoursOwned_33 : decode cX5_hoursOwned 33 = .ok (.iinc 3 1, 3) := by decide +kernel
theorem dX5_hoursOwned_36 : decode cX5_hoursOwned 36 = .ok (.iinc 4 1, 3) := by decide +kernel
theorem dX5_hoursOwned_39 : decode cX5_hoursOwned 39 = .ok (.goto (-34), 3) := by decide +kernel
theorem dX5_hoursOwned_42 : decode cX5_hoursOwned 42 = .ok (.iload_n 3, 1) := by decide +kernel
theorem dX5_hoursOwned_43 : decode cX5_hoursOwned 43 = .ok (.ireturn, 1) := by decide +kernel
theorem dX5_ownerIn_0 : decode cX5_ownerIn 0 = .ok (.iconst 0, 1) := by decide +kernel
theorem dX5_ownerIn_1 : decode cX5_ownerIn 1 = .ok (.istore_n 2, 1) := by decide +kernel
theorem dX5_ownerIn_2 : decode cX5_ownerIn 2 = .ok (.iload_n 2, 1) := by decide +kernel
theorem dX5_ownerIn_3 : decode cX5_ownerIn 3 = .ok (.iload_n 1, 1) := by decide +kernel
theorem dX5_ownerIn_4 : decode cX5_ownerIn 4 = .ok (.if_icmp .ge 30, 3) := by decide +kernel
theorem dX5_ownerIn_7 : decode cX5_ownerIn 7 = .ok (.aload_n 0, 1) := by decide +kernel
theorem dX5_ownerIn_8 : decode cX5_ownerIn 8 = .ok (.getfield 12, 3) := by decide +kernel
theorem dX5_ownerIn_11 : decode cX5_ownerIn 11 = .ok (.invokevirtual 40, 3) := by decide +kernel
theorem dX5_ownerIn_14 : decode cX5_ownerIn 14 = .ok (.ifCond .eq 20, 3) := by decide +kernel
theorem dX5_ownerIn_17 : decode cX5_ownerIn 17 = .ok (.aload_n 0, 1) := by decide +kernel
theorem dX5_ownerIn_18 : decode cX5_ownerIn 18 = .ok (.getfield 12, 3) := by decide +kernel
theorem dX5_ownerIn_21 : decode cX5_ownerIn 21 = .ok (.aload_n 0, 1) := by decide +kernel
theorem dX5_ownerIn_22 : decode cX5_ownerIn 22 = .ok (.getfield 25, 3) := by decide +kernel
theorem dX5_ownerIn_25 : decode cX5_ownerIn 25 = .ok (.invokevirtual 33, 3) := by decide +kernel
theorem dX5_ownerIn_28 : decode cX5_ownerIn 28 = .ok (.iinc 2 1, 3) := by decide +kernel
theorem dX5_ownerIn_31 : decode cX5_ownerIn 31 = .ok (.goto (-29), 3) := by decide +kernel
theorem dX5_ownerIn_34 : decode cX5_ownerIn 34 = .ok (.aload_n 0, 1) := by decide +kernel
theorem dX5_ownerIn_35 : decode cX5_ownerIn 35 = .ok (.getfield 12, 3) := by decide +kernel
theorem dX5_ownerIn_38 : decode cX5_ownerIn 38 = .ok (.getfield 37, 3) := by decide +kernel
theorem dX5_ownerIn_41 : decode cX5_ownerIn 41 = .ok (.ireturn, 1) := by decide +kernel
theorem dX5_bestTop_0 : decode cX5_bestTop 0 = .ok (.iconst (-1), 1) := by decide +kernel
theorem dX5_bestTop_1 : decode cX5_bestTop 1 = .ok (.istore_n 3, 1) := by decide +kernel
theorem dX5_bestTop_2 : decode cX5_bestTop 2 = .ok (.iconst (-1), 1) := by decide +kernel
theorem dX5_bestTop_3 : decode cX5_bestTop 3 = .ok (.istore 4, 2) := by decide +kernel
theorem dX5_bestTop_5 : decode cX5_bestTop 5 = .ok (.iconst 0, 1) := by decide +kernel
theorem dX5_bestTop_6 : decode cX5_bestTop 6 = .ok (.istore 5, 2) := by decide +kernel
theorem dX5_bestTop_8 : decode cX5_bestTop 8 = .ok (.iconst 2, 1) := by decide +kernel
theorem dX5_bestTop_9 : decode cX5_bestTop 9 = .ok (.aload_n 0, 1) := by decide +kernel
theorem dX5_bestTop_10 : decode cX5_bestTop 10 = .ok (.getfield 22, 3) := by decide +kernel
theorem dX5_bestTop_13 : decode cX5_bestTop 13 = .ok (.invokevirtual 44, 3) := by decide +kernel
theorem dX5_bestTop_16 : decode cX5_bestTop 16 = .ok (.invokestatic 47, 3) := by decide +kernel
theorem dX5_bestTop_19 : decode cX5_bestTop 19 = .ok (.istore 6, 2) := by decide +kernel
theorem dX5_bestTop_21 : decode cX5_bestTop 21 = .ok (.iload 6, 2) := by decide +kernel
theorem dX5_bestTop_23 : decode cX5_bestTop 23 = .ok (.bipush 9, 2) := by decide +kernel
theorem dX5_bestTop_25 : decode cX5_bestTop 25 = .ok (.if_icmp .gt 72, 3) := by decide +kernel
theorem dX5_bestTop_28 : decode cX5_bestTop 28 = .ok (.aload_n 0, 1) := by decide +kernel
theorem dX5_bestTop_29 : decode cX5_bestTop 29 = .ok (.getfield 12, 3) := by decide +kernel
theorem dX5_bestTop_32 : decode cX5_bestTop 32 = .ok (.aload_n 0, 1) := by decide +kernel
theorem dX5_bestTop_33 : decode cX5_bestTop 33 = .ok (.getfield 22, 3) := by decide +kernel
theorem dX5_bestTop_36 : decode cX5_bestTop 36 = .ok (.invokevirtual 53, 3) := by decide +kernel
theorem dX5_bestTop_39 : decode cX5_bestTop 39 = .ok (.aload_n 0, 1) := by decide +kernel
theorem dX5_bestTop_40 : decode cX5_bestTop 40 = .ok (.getfield 12, 3) := by decide +kernel
theorem dX5_bestTop_43 : decode cX5_bestTop 43 = .ok (.iload 6, 2) := by decide +kernel
theorem dX5_bestTop_45 : decode cX5_bestTop 45 = .ok (.putfield 57, 3) := by decide +kernel
theorem dX5_bestTop_48 : decode cX5_bestTop 48 = .ok (.aload_n 0, 1) := by decide +kernel
theorem dX5_bestTop_49 : decode cX5_bestTop 49 = .ok (.iload_n 1, 1) := by decide +kernel
theorem dX5_bestTop_50 : decode cX5_bestTop 50 = .ok (.iload_n 2, 1) := by decide +kernel
theorem dX5_bestTop_51 : decode cX5_bestTop 51 = .ok (.invokevirtual 60, 3) := by decide +kernel
theorem dX5_bestTop_54 : decode cX5_bestTop 54 = .ok (.istore 7, 2) := by decide +kernel
theorem dX5_bestTop_56 : decode cX5_bestTop 56 = .ok (.iload 7, 2) := by decide +kernel
theorem dX5_bestTop_58 : decode cX5_bestTop 58 = .ok (.iload 4, 2) := by decide +kernel
theorem dX5_bestTop_60 : decode cX5_bestTop 60 = .ok (.if_icmp .le 10, 3) := by decide +kernel
theorem dX5_bestTop_63 : decode cX5_bestTop 63 = .ok (.iload 7, 2) := by decide +kernel
theorem dX5_bestTop_65 : decode cX5_bestTop 65 = .ok (.istore 4, 2) := by decide +kernel
theorem dX5_bestTop_67 : decode cX5_bestTop 67 = .ok (.iload 6, 2) := by decide +kernel
theorem dX5_bestTop_69 : decode cX5_bestTop 69 = .ok (.istore_n 3, 1) := by decide +kernel
theorem dX5_bestTop_70 : decode cX5_bestTop 70 = .ok (.iload 6, 2) := by decide +kernel
theorem dX5_bestTop_72 : decode cX5_bestTop 72 = .ok (.aload_n 0, 1) := by decide +kernel
theorem dX5_bestTop_73 : decode cX5_bestTop 73 = .ok (.getfield 22, 3) := by decide +kernel
theorem dX5_bestTop_76 : decode cX5_bestTop 76 = .ok (.getfield 57, 3) := by decide +kernel
theorem dX5_bestTop_79 : decode cX5_bestTop 79 = .ok (.if_icmp .ne 8, 3) := by decide +kernel
theorem dX5_bestTop_82 : decode cX5_bestTop 82 = .ok (.iload 7, 2) := by decide +kernel
theorem dX5_bestTop_84 : decode cX5_bestTop 84 = .ok (.goto 5, 3) := by decide +kernel
theorem dX5_bestTop_87 : decode cX5_bestTop 87 = .ok (.iload 5, 2) := by decide +kernel
theorem dX5_bestTop_89 : decode cX5_bestTop 89 = .ok (.istore 5, 2) := by decide +kernel
theorem dX5_bestTop_91 : decode cX5_bestTop 91 = .ok (.iinc 6 1, 3) := by decide +kernel
theorem dX5_bestTop_94 : decode cX5_bestTop 94 = .ok (.goto (-73), 3) := by decide +kernel
theorem dX5_bestTop_97 : decode cX5_bestTop 97 = .ok (.aload_n 0, 1) := by decide +kernel
theorem dX5_bestTop_98 : decode cX5_bestTop 98 = .ok (.getfield 29, 3) := by decide +kernel
theorem dX5_bestTop_101 : decode cX5_bestTop 101 = .ok (.iload 4, 2) := by decide +kernel
theorem dX5_bestTop_103 : decode cX5_bestTop 103 = .ok (.i2l, 1) := by decide +kernel
theorem dX5_bestTop_104 : decode cX5_bestTop 104 = .ok (.iload 5, 2) := by decide +kernel
theorem dX5_bestTop_106 : decode cX5_bestTop 106 = .ok (.i2l, 1) := by decide +kernel
theorem dX5_bestTop_107 : decode cX5_bestTop 107 = .ok (.invokevirtual 63, 3) := by decide +kernel
theorem dX5_bestTop_110 : decode cX5_bestTop 110 = .ok (.iload_n 3, 1) := by decide +kernel
theorem dX5_bestTop_111 : decode cX5_bestTop 111 = .ok (.ireturn, 1) := by decide +kernel
theorem dX5_fewestToWait_0 : decode cX5_fewestToWait 0 = .ok (.bipush (-2), 2) := by decide +kernel
theorem dX5_fewestToWait_2 : decode cX5_fewestToWait 2 = .ok (.istore_n 3, 1) := by decide +kernel
theorem dX5_fewestToWait_3 : decode cX5_fewestToWait 3 = .ok (.iconst 0, 1) := by decide +kernel
theorem dX5_fewestToWait_4 : decode cX5_fewestToWait 4 = .ok (.istore 4, 2) := by decide +kernel
theorem dX5_fewestToWait_6 : decode cX5_fewestToWait 6 = .ok (.iconst 0, 1) := by decide +kernel
theorem dX5_fewestToWait_7 : decode cX5_fewestToWait 7 = .ok (.istore 5, 2) := by decide +kernel
theorem dX5_fewestToWait_9 : decode cX5_fewestToWait 9 = .ok (.iload 5, 2) := by decide +kernel
theorem dX5_fewestToWait_11 : decode cX5_fewestToWait 11 = .ok (.bipush 30, 2) := by decide +kernel
theorem dX5_fewestToWait_13 : decode cX5_fewestToWait 13 = .ok (.if_icmp .gt 69, 3) := by decide +kernel
theorem dX5_fewestToWait_16 : decode cX5_fewestToWait 16 = .ok (.aload_n 0, 1) := by decide +kernel
theorem dX5_fewestToWait_17 : decode cX5_fewestToWait 17 = .ok (.getfield 12, 3) := by decide +kernel
theorem dX5_fewestToWait_20 : decode cX5_fewestToWait 20 = .ok (.aload_n 0, 1) := by decide +kernel
theorem dX5_fewestToWait_21 : decode cX5_fewestToWait 21 = .ok (.getfield 22, 3) := by decide +kernel
theorem dX5_fewestToWait_24 : decode cX5_fewestToWait 24 = .ok (.invokevirtual 53, 3) := by decide +kernel
theorem dX5_fewestToWait_27 : decode cX5_fewestToWait 27 = .ok (.aload_n 0, 1) := by decide +kernel
theorem dX5_fewestToWait_28 : decode cX5_fewestToWait 28 = .ok (.getfield 12, 3) := by decide +kernel
theorem dX5_fewestToWait_31 : decode cX5_fewestToWait 31 = .ok (.iload_n 1, 1) := by decide +kernel
theorem dX5_fewestToWait_32 : decode cX5_fewestToWait 32 = .ok (.invokevirtual 69, 3) := by decide +kernel
theorem dX5_fewestToWait_35 : decode cX5_fewestToWait 35 = .ok (.ifCond .eq 17, 3) := by decide +kernel
theorem dX5_fewestToWait_38 : decode cX5_fewestToWait 38 = .ok (.aload_n 0, 1) := by decide +kernel
theorem dX5_fewestToWait_39 : decode cX5_fewestToWait 39 = .ok (.getfield 12, 3) := by decide +kernel
theorem dX5_fewestToWait_42 : decode cX5_fewestToWait 42 = .ok (.getfield 73, 3) := by decide +kernel
theorem dX5_fewestToWait_45 : decode cX5_fewestToWait 45 = .ok (.iload_n 1, 1) := by decide +kernel
theorem dX5_fewestToWait_46 : decode cX5_fewestToWait 46 = .ok (.dup2, 1) := by decide +kernel
theorem dX5_fewestToWait_47 : decode cX5_fewestToWait 47 = .ok (.iaload, 1) := by decide +kernel
theorem dX5_fewestToWait_48 : decode cX5_fewestToWait 48 = .ok (.iload 5, 2) := by decide +kernel
theorem dX5_fewestToWait_50 : decode cX5_fewestToWait 50 = .ok (.iadd, 1) := by decide +kernel
theorem dX5_fewestToWait_51 : decode cX5_fewestToWait 51 = .ok (.iastore, 1) := by decide +kernel
theorem dX5_fewestToWait_52 : decode cX5_fewestToWait 52 = .ok (.aload_n 0, 1) := by decide +kernel
theorem dX5_fewestToWait_53 : decode cX5_fewestToWait 53 = .ok (.iload_n 2, 1) := by decide +kernel
theorem dX5_fewestToWait_54 : decode cX5_fewestToWait 54 = .ok (.invokevirtual 77, 3) := by decide +kernel
theorem dX5_fewestToWait_57 : decode cX5_fewestToWait 57 = .ok (.iload_n 1, 1) := by decide +kernel
theorem dX5_fewestToWait_58 : decode cX5_fewestToWait 58 = .ok (.if_icmp .ne 18, 3) := by decide +kernel
theorem dX5_fewestToWait_61 : decode cX5_fewestToWait 61 = .ok (.iload 4, 2) := by decide +kernel
theorem dX5_fewestToWait_63 : decode cX5_fewestToWait 63 = .ok (.ifCond .ne 8, 3) := by decide +kernel
theorem dX5_fewestToWait_66 : decode cX5_fewestToWait 66 = .ok (.iload 5, 2) := by decide +kernel
theorem dX5_fewestToWait_68 : decode cX5_fewestToWait 68 = .ok (.goto 4, 3) := by decide +kernel
theorem dX5_fewestToWait_71 : decode cX5_fewestToWait 71 = .ok (.iload_n 3, 1) := by decide +kernel
theorem dX5_fewestToWait_72 : decode cX5_fewestToWait 72 = .ok (.istore_n 3, 1) := by decide +kernel
theorem dX5_fewestToWait_73 : decode cX5_fewestToWait 73 = .ok (.iinc 4 1, 3) := by decide +kernel
theorem dX5_fewestToWait_76 : decode cX5_fewestToWait 76 = .ok (.iinc 5 1, 3) := by decide +kernel
theorem dX5_fewestToWait_79 : decode cX5_fewestToWait 79 = .ok (.goto (-70), 3) := by decide +kernel
theorem dX5_fewestToWait_82 : decode cX5_fewestToWait 82 = .ok (.iload 4, 2) := by decide +kernel
theorem dX5_fewestToWait_84 : decode cX5_fewestToWait 84 = .ok (.ifCond .le 13, 3) := by decide +kernel
theorem dX5_fewestToWait_87 : decode cX5_fewestToWait 87 = .ok (.aload_n 0, 1) := by decide +kernel
theorem dX5_fewestToWait_88 : decode cX5_fewestToWait 88 = .ok (.getfield 29, 3) := by decide +kernel
theorem dX5_fewestToWait_91 : decode cX5_fewestToWait 91 = .ok (.iload 4, 2) := by decide +kernel
theorem dX5_fewestToWait_93 : decode cX5_fewestToWait 93 = .ok (.i2l, 1) := by decide +kernel
theorem dX5_fewestToWait_94 : decode cX5_fewestToWait 94 = .ok (.invokevirtual 81, 3) := by decide +kernel
theorem dX5_fewestToWait_97 : decode cX5_fewestToWait 97 = .ok (.iload_n 3, 1) := by decide +kernel
theorem dX5_fewestToWait_98 : decode cX5_fewestToWait 98 = .ok (.ireturn, 1) := by decide +kernel
theorem dX5_fewestToStay_0 : decode cX5_fewestToStay 0 = .ok (.aload_n 0, 1) := by decide +kernel
theorem dX5_fewestToStay_1 : decode cX5_fewestToStay 1 = .ok (.getfield 22, 3) := by decide +kernel
theorem dX5_fewestToStay_4 : decode cX5_fewestToStay 4 = .ok (.invokevirtual 40, 3) := by decide +kernel
theorem dX5_fewestToStay_7 : decode cX5_fewestToStay 7 = .ok (.iconst 1, 1) := by decide +kernel
theorem dX5_fewestToStay_8 : decode cX5_fewestToStay 8 = .ok (.iload_n 1, 1) := by decide +kernel
theorem dX5_fewestToStay_9 : decode cX5_fewestToStay 9 = .ok (.ishl, 1) := by decide +kernel
theorem dX5_fewestToStay_10 : decode cX5_fewestToStay 10 = .ok (.iconst (-1), 1) := by decide +kernel
theorem dX5_fewestToStay_11 : decode cX5_fewestToStay 11 = .ok (.ixor, 1) := by decide +kernel
theorem dX5_fewestToStay_12 : decode cX5_fewestToStay 12 = .ok (.iand, 1) := by decide +kernel
theorem dX5_fewestToStay_13 : decode cX5_fewestToStay 13 = .ok (.istore_n 3, 1) := by decide +kernel
theorem dX5_fewestToStay_14 : decode cX5_fewestToStay 14 = .ok (.iconst 0, 1) := by decide +kernel
theorem dX5_fewestToStay_15 : decode cX5_fewestToStay 15 = .ok (.istore 4, 2) := by decide +kernel
theorem dX5_fewestToStay_17 : decode cX5_fewestToStay 17 = .ok (.iload 4, 2) := by decide +kernel
theorem dX5_fewestToStay_19 : decode cX5_fewestToStay 19 = .ok (.bipush 7, 2) := by decide +kernel
theorem dX5_fewestToStay_21 : decode cX5_fewestToStay 21 = .ok (.if_icmp .ge 74, 3) := by decide +kernel
theorem dX5_fewestToStay_24 : decode cX5_fewestToStay 24 = .ok (.iconst 0, 1) := by decide +kernel
theorem dX5_fewestToStay_25 : decode cX5_fewestToStay 25 = .ok (.istore 5, 2) := by decide +kernel
theorem dX5_fewestToStay_27 : decode cX5_fewestToStay 27 = .ok (.iload 5, 2) := by decide +kernel
theorem dX5_fewestToStay_29 : decode cX5_fewestToStay 29 = .ok (.iload_n 3, 1) := by decide +kernel
theorem dX5_fewestToStay_30 : decode cX5_fewestToStay 30 = .ok (.if_icmp .gt 59, 3) := by decide +kernel
theorem dX5_fewestToStay_33 : decode cX5_fewestToStay 33 = .ok (.iload 5, 2) := by decide +kernel
theorem dX5_fewestToStay_35 : decode cX5_fewestToStay 35 = .ok (.iload_n 3, 1) := by decide +kernel
theorem dX5_fewestToStay_36 : decode cX5_fewestToStay 36 = .ok (.iconst (-1), 1) := by decide +kernel
theorem dX5_fewestToStay_37 : decode cX5_fewestToStay 37 = .ok (.ixor, 1) := by decide +kernel
theorem dX5_fewestToStay_38 : decode cX5_fewestToStay 38 = .ok (.iand, 1) := by decide +kernel
theorem dX5_fewestToStay_39 : decode cX5_fewestToStay 39 = .ok (.ifCond .ne 44, 3) := by decide +kernel
theorem dX5_fewestToStay_42 : decode cX5_fewestToStay 42 = .ok (.iload 5, 2) := by decide +kernel
theorem dX5_fewestToStay_44 : decode cX5_fewestToStay 44 = .ok (.invokestatic 85, 3) := by decide +kernel
theorem dX5_fewestToStay_47 : decode cX5_fewestToStay 47 = .ok (.iload 4, 2) := by decide +kernel
theorem dX5_fewestToStay_49 : decode cX5_fewestToStay 49 = .ok (.if_icmp .eq 6, 3) := by decide +kernel
theorem dX5_fewestToStay_52 : decode cX5_fewestToStay 52 = .ok (.goto 31, 3) := by decide +kernel
theorem dX5_fewestToStay_55 : decode cX5_fewestToStay 55 = .ok (.aload_n 0, 1) := by decide +kernel
theorem dX5_fewestToStay_56 : decode cX5_fewestToStay 56 = .ok (.iload 5, 2) := by decide +kernel
theorem dX5_fewestToStay_58 : decode cX5_fewestToStay 58 = .ok (.invokevirtual 90, 3) := by decide +kernel
theorem dX5_fewestToStay_61 : decode cX5_fewestToStay 61 = .ok (.aload_n 0, 1) := by decide +kernel
theorem dX5_fewestToStay_62 : decode cX5_fewestToStay 62 = .ok (.iload_n 2, 1) := by decide +kernel
theorem dX5_fewestToStay_63 : decode cX5_fewestToStay 63 = .ok (.invokevirtual 77, 3) := by decide +kernel
theorem dX5_fewestToStay_66 : decode cX5_fewestToStay 66 = .ok (.iload_n 1, 1) := by decide +kernel
theorem dX5_fewestToStay_67 : decode cX5_fewestToStay 67 = .ok (.if_icmp .ne 16, 3) := by decide +kernel
theorem dX5_fewestToStay_70 : decode cX5_fewestToStay 70 = .ok (.aload_n 0, 1) := by decide +kernel
theorem dX5_fewestToStay_71 : decode cX5_fewestToStay 71 = .ok (.getfield 29, 3) := by decide +kernel
theorem dX5_fewestToStay_74 : decode cX5_fewestToStay 74 = .ok (.iload 5, 2) := by decide +kernel
theorem dX5_fewestToStay_76 : decode cX5_fewestToStay 76 = .ok (.i2l, 1) := by decide +kernel
theorem dX5_fewestToStay_77 : decode cX5_fewestToStay 77 = .ok (.invokevirtual 81, 3) := by decide +kernel
theorem dX5_fewestToStay_80 : decode cX5_fewestToStay 80 = .ok (.iload 4, 2) := by decide +kernel
theorem dX5_fewestToStay_82 : decode cX5_fewestToStay 82 = .ok (.ireturn, 1) := by decide +kernel
theorem dX5_fewestToStay_83 : decode cX5_fewestToStay 83 = .ok (.iinc 5 1, 3) := by decide +kernel
theorem dX5_fewestToStay_86 : decode cX5_fewestToStay 86 = .ok (.goto (-59), 3) := by decide +kernel
theorem dX5_fewestToStay_89 : decode cX5_fewestToStay 89 = .ok (.iinc 4 1, 3) := by decide +kernel
theorem dX5_fewestToStay_92 : decode cX5_fewestToStay 92 = .ok (.goto (-75), 3) := by decide +kernel
theorem dX5_fewestToStay_95 : decode cX5_fewestToStay 95 = .ok (.bipush (-2), 2) := by decide +kernel
theorem dX5_fewestToStay_97 : decode cX5_fewestToStay 97 = .ok (.ireturn, 1) := by decide +kernel
theorem dX5_letStay_0 : decode cX5_letStay 0 = .ok (.aload_n 0, 1) := by decide +kernel
theorem dX5_letStay_1 : decode cX5_letStay 1 = .ok (.getfield 12, 3) := by decide +kernel
theorem dX5_letStay_4 : decode cX5_letStay 4 = .ok (.aload_n 0, 1) := by decide +kernel
theorem dX5_letStay_5 : decode cX5_letStay 5 = .ok (.getfield 22, 3) := by decide +kernel
theorem dX5_letStay_8 : decode cX5_letStay 8 = .ok (.invokevirtual 53, 3) := by decide +kernel
theorem dX5_letStay_11 : decode cX5_letStay 11 = .ok (.iconst 0, 1) := by decide +kernel
theorem dX5_letStay_12 : decode cX5_letStay 12 = .ok (.istore_n 2, 1) := by decide +kernel
theorem dX5_letStay_13 : decode cX5_letStay 13 = .ok (.iload_n 2, 1) := by decide +kernel
theorem dX5_letStay_14 : decode cX5_letStay 14 = .ok (.bipush 7, 2) := by decide +kernel
theorem dX5_letStay_16 : decode cX5_letStay 16 = .ok (.if_icmp .ge 36, 3) := by decide +kernel
theorem dX5_letStay_19 : decode cX5_letStay 19 = .ok (.aload_n 0, 1) := by decide +kernel
theorem dX5_letStay_20 : decode cX5_letStay 20 = .ok (.getfield 12, 3) := by decide +kernel
theorem dX5_letStay_23 : decode cX5_letStay 23 = .ok (.getfield 73, 3) := by decide +kernel
theorem dX5_letStay_26 : decode cX5_letStay 26 = .ok (.iload_n 2, 1) := by decide +kernel
theorem dX5_letStay_27 : decode cX5_letStay 27 = .ok (.dup2, 1) := by decide +kernel
theorem dX5_letStay_28 : decode cX5_letStay 28 = .ok (.iaload, 1) := by decide +kernel
theorem dX5_letStay_29 : decode cX5_letStay 29 = .ok (.iload_n 1, 1) := by decide +kernel
theorem dX5_letStay_30 : decode cX5_letStay 30 = .ok (.iload_n 2, 1) := by decide +kernel
theorem dX5_letStay_31 : decode cX5_letStay 31 = .ok (.ishr, 1) := by decide +kernel
theorem dX5_letStay_32 : decode cX5_letStay 32 = .ok (.iconst 1, 1) := by decide +kernel
theorem dX5_letStay_33 : decode cX5_letStay 33 = .ok (.iand, 1) := by decide +kernel
theorem dX5_letStay_34 : decode cX5_letStay 34 = .ok (.iconst 1, 1) := by decide +kernel
theorem dX5_letStay_35 : decode cX5_letStay 35 = .ok (.if_icmp .ne 8, 3) := by decide +kernel
theorem dX5_letStay_38 : decode cX5_letStay 38 = .ok (.bipush 99, 2) := by decide +kernel
theorem dX5_letStay_40 : decode cX5_letStay 40 = .ok (.goto 4, 3) := by decide +kernel
theorem dX5_letStay_43 : decode cX5_letStay 43 = .ok (.iconst 0, 1) := by decide +kernel
theorem dX5_letStay_44 : decode cX5_letStay 44 = .ok (.iadd, 1) := by decide +kernel
theorem dX5_letStay_45 : decode cX5_letStay 45 = .ok (.iastore, 1) := by decide +kernel
theorem dX5_letStay_46 : decode cX5_letStay 46 = .ok (.iinc 2 1, 3) := by decide +kernel
theorem dX5_letStay_49 : decode cX5_letStay 49 = .ok (.goto (-36), 3) := by decide +kernel
theorem dX5_letStay_52 : decode cX5_letStay 52 = .ok (.return_, 1) := by decide +kernel
theorem dX5_bestToSetOut_0 : decode cX5_bestToSetOut 0 = .ok (.bipush (-2), 2) := by decide +kernel
theorem dX5_bestToSetOut_2 : decode cX5_bestToSetOut 2 = .ok (.istore_n 2, 1) := by decide +kernel
theorem dX5_bestToSetOut_3 : decode cX5_bestToSetOut 3 = .ok (.iconst (-1), 1) := by decide +kernel
theorem dX5_bestToSetOut_4 : decode cX5_bestToSetOut 4 = .ok (.istore_n 3, 1) := by decide +kernel
theorem dX5_bestToSetOut_5 : decode cX5_bestToSetOut 5 = .ok (.iconst 0, 1) := by decide +kernel
theorem dX5_bestToSetOut_6 : decode cX5_bestToSetOut 6 = .ok (.istore 4, 2) := by decide +kernel
theorem dX5_bestToSetOut_8 : decode cX5_bestToSetOut 8 = .ok (.iload 4, 2) := by decide +kernel
theorem dX5_bestToSetOut_10 : decode cX5_bestToSetOut 10 = .ok (.bipush 7, 2) := by decide +kernel
theorem dX5_bestToSetOut_12 : decode cX5_bestToSetOut 12 = .ok (.if_icmp .ge 79, 3) := by decide +kernel
theorem dX5_bestToSetOut_15 : decode cX5_bestToSetOut 15 = .ok (.iload 4, 2) := by decide +kernel
theorem dX5_bestToSetOut_17 : decode cX5_bestToSetOut 17 = .ok (.aload_n 0, 1) := by decide +kernel
theorem dX5_bestToSetOut_18 : decode cX5_bestToSetOut 18 = .ok (.getfield 22, 3) := by decide +kernel
theorem dX5_bestToSetOut_21 : decode cX5_bestToSetOut 21 = .ok (.getfield 94, 3) := by decide +kernel
theorem dX5_bestToSetOut_24 : decode cX5_bestToSetOut 24 = .ok (.if_icmp .ge 67, 3) := by decide +kernel
theorem dX5_bestToSetOut_27 : decode cX5_bestToSetOut 27 = .ok (.aload_n 0, 1) := by decide +kernel
theorem dX5_bestToSetOut_28 : decode cX5_bestToSetOut 28 = .ok (.getfield 22, 3) := by decide +kernel
theorem dX5_bestToSetOut_31 : decode cX5_bestToSetOut 31 = .ok (.getfield 97, 3) := by decide +kernel
theorem dX5_bestToSetOut_34 : decode cX5_bestToSetOut 34 = .ok (.iload 4, 2) := by decide +kernel
theorem dX5_bestToSetOut_36 : decode cX5_bestToSetOut 36 = .ok (.iaload, 1) := by decide +kernel
theorem dX5_bestToSetOut_37 : decode cX5_bestToSetOut 37 = .ok (.ifCond .eq 6, 3) := by decide +kernel
theorem dX5_bestToSetOut_40 : decode cX5_bestToSetOut 40 = .ok (.goto 45, 3) := by decide +kernel
theorem dX5_bestToSetOut_43 : decode cX5_bestToSetOut 43 = .ok (.aload_n 0, 1) := by decide +kernel
theorem dX5_bestToSetOut_44 : decode cX5_bestToSetOut 44 = .ok (.getfield 12, 3) := by decide +kernel
theorem dX5_bestToSetOut_47 : decode cX5_bestToSetOut 47 = .ok (.aload_n 0, 1) := by decide +kernel
theorem dX5_bestToSetOut_48 : decode cX5_bestToSetOut 48 = .ok (.getfield 22, 3) := by decide +kernel
theorem dX5_bestToSetOut_51 : decode cX5_bestToSetOut 51 = .ok (.invokevirtual 53, 3) := by decide +kernel
theorem dX5_bestToSetOut_54 : decode cX5_bestToSetOut 54 = .ok (.aload_n 0, 1) := by decide +kernel
theorem dX5_bestToSetOut_55 : decode cX5_bestToSetOut 55 = .ok (.getfield 12, 3) := by decide +kernel
theorem dX5_bestToSetOut_58 : decode cX5_bestToSetOut 58 = .ok (.iload 4, 2) := by decide +kernel
theorem dX5_bestToSetOut_60 : decode cX5_bestToSetOut 60 = .ok (.invokevirtual 100, 3) := by decide +kernel
theorem dX5_bestToSetOut_63 : decode cX5_bestToSetOut 63 = .ok (.pop, 1) := by decide +kernel
theorem dX5_bestToSetOut_64 : decode cX5_bestToSetOut 64 = .ok (.aload_n 0, 1) := by decide +kernel
theorem dX5_bestToSetOut_65 : decode cX5_bestToSetOut 65 = .ok (.iload 4, 2) := by decide +kernel
theorem dX5_bestToSetOut_67 : decode cX5_bestToSetOut 67 = .ok (.iload_n 1, 1) := by decide +kernel
theorem dX5_bestToSetOut_68 : decode cX5_bestToSetOut 68 = .ok (.invokevirtual 60, 3) := by decide +kernel
theorem dX5_bestToSetOut_71 : decode cX5_bestToSetOut 71 = .ok (.istore 5, 2) := by decide +kernel
theorem dX5_bestToSetOut_73 : decode cX5_bestToSetOut 73 = .ok (.iload 5, 2) := by decide +kernel
theorem dX5_bestToSetOut_75 : decode cX5_bestToSetOut 75 = .ok (.iload_n 3, 1) := by decide +kernel
theorem dX5_bestToSetOut_76 : decode cX5_bestToSetOut 76 = .ok (.if_icmp .le 9, 3) := by decide +kernel
theorem dX5_bestToSetOut_79 : decode cX5_bestToSetOut 79 = .ok (.iload 5, 2) := by decide +kernel
theorem dX5_bestToSetOut_81 : decode cX5_bestToSetOut 81 = .ok (.istore_n 3, 1) := by decide +kernel
theorem dX5_bestToSetOut_82 : decode cX5_bestToSetOut 82 = .ok (.iload 4, 2) := by decide +kernel
theorem dX5_bestToSetOut_84 : decode cX5_bestToSetOut 84 = .ok (.istore_n 2, 1) := by decide +kernel
theorem dX5_bestToSetOut_85 : decode cX5_bestToSetOut 85 = .ok (.iinc 4 1, 3) := by decide +kernel
theorem dX5_bestToSetOut_88 : decode cX5_bestToSetOut 88 = .ok (.goto (-80), 3) := by decide +kernel
theorem dX5_bestToSetOut_91 : decode cX5_bestToSetOut 91 = .ok (.iload_n 2, 1) := by decide +kernel
theorem dX5_bestToSetOut_92 : decode cX5_bestToSetOut 92 = .ok (.ifCond .lt 12, 3) := by decide +kernel
theorem dX5_bestToSetOut_95 : decode cX5_bestToSetOut 95 = .ok (.aload_n 0, 1) := by decide +kernel
theorem dX5_bestToSetOut_96 : decode cX5_bestToSetOut 96 = .ok (.getfield 29, 3) := by decide +kernel
theorem dX5_bestToSetOut_99 : decode cX5_bestToSetOut 99 = .ok (.iload_n 3, 1) := by decide +kernel
theorem dX5_bestToSetOut_100 : decode cX5_bestToSetOut 100 = .ok (.i2l, 1) := by decide +kernel
theorem dX5_bestToSetOut_101 : decode cX5_bestToSetOut 101 = .ok (.invokevirtual 81, 3) := by decide +kernel
theorem dX5_bestToSetOut_104 : decode cX5_bestToSetOut 104 = .ok (.iload_n 2, 1) := by decide +kernel
theorem dX5_bestToSetOut_105 : decode cX5_bestToSetOut 105 = .ok (.ireturn, 1) := by decide +kernel
theorem dX5_fewestToSetOut_0 : decode cX5_fewestToSetOut 0 = .ok (.aload_n 0, 1) := by decide +kernel
theorem dX5_fewestToSetOut_1 : decode cX5_fewestToSetOut 1 = .ok (.getfield 22, 3) := by decide +kernel
theorem dX5_fewestToSetOut_4 : decode cX5_fewestToSetOut 4 = .ok (.invokevirtual 103, 3) := by decide +kernel
theorem dX5_fewestToSetOut_7 : decode cX5_fewestToSetOut 7 = .ok (.aload_n 0, 1) := by decide +kernel
theorem dX5_fewestToSetOut_8 : decode cX5_fewestToSetOut 8 = .ok (.getfield 22, 3) := by decide +kernel
theorem dX5_fewestToSetOut_11 : decode cX5_fewestToSetOut 11 = .ok (.invokevirtual 40, 3) := by decide +kernel
theorem dX5_fewestToSetOut_14 : decode cX5_fewestToSetOut 14 = .ok (.iconst (-1), 1) := by decide +kernel
theorem dX5_fewestToSetOut_15 : decode cX5_fewestToSetOut 15 = .ok (.ixor, 1) := by decide +kernel
theorem dX5_fewestToSetOut_16 : decode cX5_fewestToSetOut 16 = .ok (.iand, 1) := by decide +kernel
theorem dX5_fewestToSetOut_17 : decode cX5_fewestToSetOut 17 = .ok (.istore_n 3, 1) := by decide +kernel
theorem dX5_fewestToSetOut_18 : decode cX5_fewestToSetOut 18 = .ok (.iconst 0, 1) := by decide +kernel
theorem dX5_fewestToSetOut_19 : decode cX5_fewestToSetOut 19 = .ok (.istore 4, 2) := by decide +kernel
theorem dX5_fewestToSetOut_21 : decode cX5_fewestToSetOut 21 = .ok (.iload 4, 2) := by decide +kernel
theorem dX5_fewestToSetOut_23 : decode cX5_fewestToSetOut 23 = .ok (.bipush 7, 2) := by decide +kernel
theorem dX5_fewestToSetOut_25 : decode cX5_fewestToSetOut 25 = .ok (.if_icmp .gt 74, 3) := by decide +kernel
theorem dX5_fewestToSetOut_28 : decode cX5_fewestToSetOut 28 = .ok (.iconst 0, 1) := by decide +kernel
theorem dX5_fewestToSetOut_29 : decode cX5_fewestToSetOut 29 = .ok (.istore 5, 2) := by decide +kernel
theorem dX5_fewestToSetOut_31 : decode cX5_fewestToSetOut 31 = .ok (.iload 5, 2) := by decide +kernel
theorem dX5_fewestToSetOut_33 : decode cX5_fewestToSetOut 33 = .ok (.iload_n 3, 1) := by decide +kernel
theorem dX5_fewestToSetOut_34 : decode cX5_fewestToSetOut 34 = .ok (.if_icmp .gt 59, 3) := by decide +kernel
theorem dX5_fewestToSetOut_37 : decode cX5_fewestToSetOut 37 = .ok (.iload 5, 2) := by decide +kernel
theorem dX5_fewestToSetOut_39 : decode cX5_fewestToSetOut 39 = .ok (.iload_n 3, 1) := by decide +kernel
theorem dX5_fewestToSetOut_40 : decode cX5_fewestToSetOut 40 = .ok (.iconst (-1), 1) := by decide +kernel
theorem dX5_fewestToSetOut_41 : decode cX5_fewestToSetOut 41 = .ok (.ixor, 1) := by decide +kernel
theorem dX5_fewestToSetOut_42 : decode cX5_fewestToSetOut 42 = .ok (.iand, 1) := by decide +kernel
theorem dX5_fewestToSetOut_43 : decode cX5_fewestToSetOut 43 = .ok (.ifCond .ne 44, 3) := by decide +kernel
theorem dX5_fewestToSetOut_46 : decode cX5_fewestToSetOut 46 = .ok (.iload 5, 2) := by decide +kernel
theorem dX5_fewestToSetOut_48 : decode cX5_fewestToSetOut 48 = .ok (.invokestatic 85, 3) := by decide +kernel
theorem dX5_fewestToSetOut_51 : decode cX5_fewestToSetOut 51 = .ok (.iload 4, 2) := by decide +kernel
theorem dX5_fewestToSetOut_53 : decode cX5_fewestToSetOut 53 = .ok (.if_icmp .eq 6, 3) := by decide +kernel
theorem dX5_fewestToSetOut_56 : decode cX5_fewestToSetOut 56 = .ok (.goto 31, 3) := by decide +kernel
theorem dX5_fewestToSetOut_59 : decode cX5_fewestToSetOut 59 = .ok (.aload_n 0, 1) := by decide +kernel
theorem dX5_fewestToSetOut_60 : decode cX5_fewestToSetOut 60 = .ok (.iload 5, 2) := by decide +kernel
theorem dX5_fewestToSetOut_62 : decode cX5_fewestToSetOut 62 = .ok (.invokevirtual 106, 3) := by decide +kernel
theorem dX5_fewestToSetOut_65 : decode cX5_fewestToSetOut 65 = .ok (.aload_n 0, 1) := by decide +kernel
theorem dX5_fewestToSetOut_66 : decode cX5_fewestToSetOut 66 = .ok (.iload_n 2, 1) := by decide +kernel
theorem dX5_fewestToSetOut_67 : decode cX5_fewestToSetOut 67 = .ok (.invokevirtual 77, 3) := by decide +kernel
theorem dX5_fewestToSetOut_70 : decode cX5_fewestToSetOut 70 = .ok (.iload_n 1, 1) := by decide +kernel
theorem dX5_fewestToSetOut_71 : decode cX5_fewestToSetOut 71 = .ok (.if_icmp .eq 16, 3) := by decide +kernel
theorem dX5_fewestToSetOut_74 : decode cX5_fewestToSetOut 74 = .ok (.aload_n 0, 1) := by decide +kernel
theorem dX5_fewestToSetOut_75 : decode cX5_fewestToSetOut 75 = .ok (.getfield 29, 3) := by decide +kernel
theorem dX5_fewestToSetOut_78 : decode cX5_fewestToSetOut 78 = .ok (.iload 5, 2) := by decide +kernel
theorem dX5_fewestToSetOut_80 : decode cX5_fewestToSetOut 80 = .ok (.i2l, 1) := by decide +kernel
theorem dX5_fewestToSetOut_81 : decode cX5_fewestToSetOut 81 = .ok (.invokevirtual 81, 3) := by decide +kernel
theorem dX5_fewestToSetOut_84 : decode cX5_fewestToSetOut 84 = .ok (.iload 4, 2) := by decide +kernel
theorem dX5_fewestToSetOut_86 : decode cX5_fewestToSetOut 86 = .ok (.ireturn, 1) := by decide +kernel
theorem dX5_fewestToSetOut_87 : decode cX5_fewestToSetOut 87 = .ok (.iinc 5 1, 3) := by decide +kernel
theorem dX5_fewestToSetOut_90 : decode cX5_fewestToSetOut 90 = .ok (.goto (-59), 3) := by decide +kernel
theorem dX5_fewestToSetOut_93 : decode cX5_fewestToSetOut 93 = .ok (.iinc 4 1, 3) := by decide +kernel
theorem dX5_fewestToSetOut_96 : decode cX5_fewestToSetOut 96 = .ok (.goto (-75), 3) := by decide +kernel
theorem dX5_fewestToSetOut_99 : decode cX5_fewestToSetOut 99 = .ok (.bipush (-2), 2) := by decide +kernel
theorem dX5_fewestToSetOut_101 : decode cX5_fewestToSetOut 101 = .ok (.ireturn, 1) := by decide +kernel
theorem dX5_letSetOut_0 : decode cX5_letSetOut 0 = .ok (.aload_n 0, 1) := by decide +kernel
theorem dX5_letSetOut_1 : decode cX5_letSetOut 1 = .ok (.getfield 12, 3) := by decide +kernel
theorem dX5_letSetOut_4 : decode cX5_letSetOut 4 = .ok (.aload_n 0, 1) := by decide +kernel
theorem dX5_letSetOut_5 : decode cX5_letSetOut 5 = .ok (.getfield 22, 3) := by decide +kernel
theorem dX5_letSetOut_8 : decode cX5_letSetOut 8 = .ok (.invokevirtual 53, 3) := by decide +kernel
theorem dX5_letSetOut_11 : decode cX5_letSetOut 11 = .ok (.iconst 0, 1) := by decide +kernel
theorem dX5_letSetOut_12 : decode cX5_letSetOut 12 = .ok (.istore_n 2, 1) := by decide +kernel
theorem dX5_letSetOut_13 : decode cX5_letSetOut 13 = .ok (.iload_n 2, 1) := by decide +kernel
theorem dX5_letSetOut_14 : decode cX5_letSetOut 14 = .ok (.bipush 7, 2) := by decide +kernel
theorem dX5_letSetOut_16 : decode cX5_letSetOut 16 = .ok (.if_icmp .ge 27, 3) := by decide +kernel
theorem dX5_letSetOut_19 : decode cX5_letSetOut 19 = .ok (.iload_n 1, 1) := by decide +kernel
theorem dX5_letSetOut_20 : decode cX5_letSetOut 20 = .ok (.iload_n 2, 1) := by decide +kernel
theorem dX5_letSetOut_21 : decode cX5_letSetOut 21 = .ok (.ishr, 1) := by decide +kernel
theorem dX5_letSetOut_22 : decode cX5_letSetOut 22 = .ok (.iconst 1, 1) := by decide +kernel
theorem dX5_letSetOut_23 : decode cX5_letSetOut 23 = .ok (.iand, 1) := by decide +kernel
theorem dX5_letSetOut_24 : decode cX5_letSetOut 24 = .ok (.iconst 1, 1) := by decide +kernel
theorem dX5_letSetOut_25 : decode cX5_letSetOut 25 = .ok (.if_icmp .ne 12, 3) := by decide +kernel
theorem dX5_letSetOut_28 : decode cX5_letSetOut 28 = .ok (.aload_n 0, 1) := by decide +kernel
theorem dX5_letSetOut_29 : decode cX5_letSetOut 29 = .ok (.getfield 12, 3) := by decide +kernel
theorem dX5_letSetOut_32 : decode cX5_letSetOut 32 = .ok (.iload_n 2, 1) := by decide +kernel
theorem dX5_letSetOut_33 : decode cX5_letSetOut 33 = .ok (.invokevirtual 100, 3) := by decide +kernel
theorem dX5_letSetOut_36 : decode cX5_letSetOut 36 = .ok (.pop, 1) := by decide +kernel
theorem dX5_letSetOut_37 : decode cX5_letSetOut 37 = .ok (.iinc 2 1, 3) := by decide +kernel
theorem dX5_letSetOut_40 : decode cX5_letSetOut 40 = .ok (.goto (-27), 3) := by decide +kernel
theorem dX5_letSetOut_43 : decode cX5_letSetOut 43 = .ok (.return_, 1) := by decide +kernel
theorem dX5_compareRules_0 : decode cX5_compareRules 0 = .ok (.aload_n 0, 1) := by decide +kernel
theorem dX5_compareRules_1 : decode cX5_compareRules 1 = .ok (.getfield 12, 3) := by decide +kernel
theorem dX5_compareRules_4 : decode cX5_compareRules 4 = .ok (.aload_n 0, 1) := by decide +kernel
theorem dX5_compareRules_5 : decode cX5_compareRules 5 = .ok (.getfield 22, 3) := by decide +kernel
theorem dX5_compareRules_8 : decode cX5_compareRules 8 = .ok (.invokevirtual 53, 3) := by decide +kernel
theorem dX5_compareRules_11 : decode cX5_compareRules 11 = .ok (.aload_n 0, 1) := by decide +kernel
theorem dX5_compareRules_12 : decode cX5_compareRules 12 = .ok (.getfield 12, 3) := by decide +kernel
theorem dX5_compareRules_15 : decode cX5_compareRules 15 = .ok (.aload_n 0, 1) := by decide +kernel
theorem dX5_compareRules_16 : decode cX5_compareRules 16 = .ok (.getfield 25, 3) := by decide +kernel
theorem dX5_compareRules_19 : decode cX5_compareRules 19 = .ok (.bipush 20, 2) := by decide +kernel
theorem dX5_compareRules_21 : decode cX5_compareRules 21 = .ok (.invokevirtual 109, 3) := by decide +kernel
theorem dX5_compareRules_24 : decode cX5_compareRules 24 = .ok (.istore_n 2, 1) := by decide +kernel
theorem dX5_compareRules_25 : decode cX5_compareRules 25 = .ok (.aload_n 0, 1) := by decide +kernel
theorem dX5_compareRules_26 : decode cX5_compareRules 26 = .ok (.getfield 12, 3) := by decide +kernel
theorem dX5_compareRules_29 : decode cX5_compareRules 29 = .ok (.getfield 37, 3) := by decide +kernel
theorem dX5_compareRules_32 : decode cX5_compareRules 32 = .ok (.istore_n 3, 1) := by decide +kernel
theorem dX5_compareRules_33 : decode cX5_compareRules 33 = .ok (.aload_n 0, 1) := by decide +kernel
theorem dX5_compareRules_34 : decode cX5_compareRules 34 = .ok (.getfield 12, 3) := by decide +kernel
theorem dX5_compareRules_37 : decode cX5_compareRules 37 = .ok (.aload_n 0, 1) := by decide +kernel
theorem dX5_compareRules_38 : decode cX5_compareRules 38 = .ok (.getfield 22, 3) := by decide +kernel
theorem dX5_compareRules_41 : decode cX5_compareRules 41 = .ok (.invokevirtual 53, 3) := by decide +kernel
theorem dX5_compareRules_44 : decode cX5_compareRules 44 = .ok (.aload_n 0, 1) := by decide +kernel
theorem dX5_compareRules_45 : decode cX5_compareRules 45 = .ok (.getfield 12, 3) := by decide +kernel
theorem dX5_compareRules_48 : decode cX5_compareRules 48 = .ok (.aload_n 1, 1) := by decide +kernel
theorem dX5_compareRules_49 : decode cX5_compareRules 49 = .ok (.bipush 20, 2) := by decide +kernel
theorem dX5_compareRules_51 : decode cX5_compareRules 51 = .ok (.invokevirtual 109, 3) := by decide +kernel
theorem dX5_compareRules_54 : decode cX5_compareRules 54 = .ok (.istore 4, 2) := by decide +kernel
theorem dX5_compareRules_56 : decode cX5_compareRules 56 = .ok (.aload_n 0, 1) := by decide +kernel
theorem dX5_compareRules_57 : decode cX5_compareRules 57 = .ok (.getfield 29, 3) := by decide +kernel
theorem dX5_compareRules_60 : decode cX5_compareRules 60 = .ok (.iload 4, 2) := by decide +kernel
theorem dX5_compareRules_62 : decode cX5_compareRules 62 = .ok (.i2l, 1) := by decide +kernel
theorem dX5_compareRules_63 : decode cX5_compareRules 63 = .ok (.iload_n 2, 1) := by decide +kernel
theorem dX5_compareRules_64 : decode cX5_compareRules 64 = .ok (.i2l, 1) := by decide +kernel
theorem dX5_compareRules_65 : decode cX5_compareRules 65 = .ok (.invokevirtual 63, 3) := by decide +kernel
theorem dX5_compareRules_68 : decode cX5_compareRules 68 = .ok (.aload_n 0, 1) := by decide +kernel
theorem dX5_compareRules_69 : decode cX5_compareRules 69 = .ok (.getfield 29, 3) := by decide +kernel
theorem dX5_compareRules_72 : decode cX5_compareRules 72 = .ok (.aload_n 0, 1) := by decide +kernel
theorem dX5_compareRules_73 : decode cX5_compareRules 73 = .ok (.getfield 12, 3) := by decide +kernel
theorem dX5_compareRules_76 : decode cX5_compareRules 76 = .ok (.getfield 37, 3) := by decide +kernel
theorem dX5_compareRules_79 : decode cX5_compareRules 79 = .ok (.i2l, 1) := by decide +kernel
theorem dX5_compareRules_80 : decode cX5_compareRules 80 = .ok (.invokevirtual 113, 3) := by decide +kernel
theorem dX5_compareRules_83 : decode cX5_compareRules 83 = .ok (.aload_n 0, 1) := by decide +kernel
theorem dX5_compareRules_84 : decode cX5_compareRules 84 = .ok (.getfield 29, 3) := by decide +kernel
theorem dX5_compareRules_87 : decode cX5_compareRules 87 = .ok (.iload_n 3, 1) := by decide +kernel
theorem dX5_compareRules_88 : decode cX5_compareRules 88 = .ok (.i2l, 1) := by decide +kernel
theorem dX5_compareRules_89 : decode cX5_compareRules 89 = .ok (.invokevirtual 113, 3) := by decide +kernel
theorem dX5_compareRules_92 : decode cX5_compareRules 92 = .ok (.iload 4, 2) := by decide +kernel
theorem dX5_compareRules_94 : decode cX5_compareRules 94 = .ok (.iload_n 2, 1) := by decide +kernel
theorem dX5_compareRules_95 : decode cX5_compareRules 95 = .ok (.isub, 1) := by decide +kernel
theorem dX5_compareRules_96 : decode cX5_compareRules 96 = .ok (.ireturn, 1) := by decide +kernel
theorem dX5_drawnYears_0 : decode cX5_drawnYears 0 = .ok (.aload_n 0, 1) := by decide +kernel
theorem dX5_drawnYears_1 : decode cX5_drawnYears 1 = .ok (.getfield 12, 3) := by decide +kernel
theorem dX5_drawnYears_4 : decode cX5_drawnYears 4 = .ok (.aload_n 0, 1) := by decide +kernel
theorem dX5_drawnYears_5 : decode cX5_drawnYears 5 = .ok (.getfield 22, 3) := by decide +kernel
theorem dX5_drawnYears_8 : decode cX5_drawnYears 8 = .ok (.invokevirtual 53, 3) := by decide +kernel
theorem dX5_drawnYears_11 : decode cX5_drawnYears 11 = .ok (.aload_n 0, 1) := by decide +kernel
theorem dX5_drawnYears_12 : decode cX5_drawnYears 12 = .ok (.iload_n 1, 1) := by decide +kernel
theorem dX5_drawnYears_13 : decode cX5_drawnYears 13 = .ok (.putfield 18, 3) := by decide +kernel
theorem dX5_drawnYears_16 : decode cX5_drawnYears 16 = .ok (.iconst 0, 1) := by decide +kernel
theorem dX5_drawnYears_17 : decode cX5_drawnYears 17 = .ok (.istore_n 3, 1) := by decide +kernel
theorem dX5_drawnYears_18 : decode cX5_drawnYears 18 = .ok (.iconst 0, 1) := by decide +kernel
theorem dX5_drawnYears_19 : decode cX5_drawnYears 19 = .ok (.istore 4, 2) := by decide +kernel
theorem dX5_drawnYears_21 : decode cX5_drawnYears 21 = .ok (.iload 4, 2) := by decide +kernel
theorem dX5_drawnYears_23 : decode cX5_drawnYears 23 = .ok (.iload_n 2, 1) := by decide +kernel
theorem dX5_drawnYears_24 : decode cX5_drawnYears 24 = .ok (.if_icmp .ge 56, 3) := by decide +kernel
theorem dX5_drawnYears_27 : decode cX5_drawnYears 27 = .ok (.aload_n 0, 1) := by decide +kernel
theorem dX5_drawnYears_28 : decode cX5_drawnYears 28 = .ok (.iconst 4, 1) := by decide +kernel
theorem dX5_drawnYears_29 : decode cX5_drawnYears 29 = .ok (.invokevirtual 116, 3) := by decide +kernel
theorem dX5_drawnYears_32 : decode cX5_drawnYears 32 = .ok (.istore 5, 2) := by decide +kernel
theorem dX5_drawnYears_34 : decode cX5_drawnYears 34 = .ok (.iload 5, 2) := by decide +kernel
theorem dX5_drawnYears_36 : decode cX5_drawnYears 36 = .ok (.iconst 2, 1) := by decide +kernel
theorem dX5_drawnYears_37 : decode cX5_drawnYears 37 = .ok (.if_icmp .ge 21, 3) := by decide +kernel
theorem dX5_drawnYears_40 : decode cX5_drawnYears 40 = .ok (.iload_n 3, 1) := by decide +kernel
theorem dX5_drawnYears_41 : decode cX5_drawnYears 41 = .ok (.aload_n 0, 1) := by decide +kernel
theorem dX5_drawnYears_42 : decode cX5_drawnYears 42 = .ok (.getfield 12, 3) := by decide +kernel
theorem dX5_drawnYears_45 : decode cX5_drawnYears 45 = .ok (.aload_n 0, 1) := by decide +kernel
theorem dX5_drawnYears_46 : decode cX5_drawnYears 46 = .ok (.getfield 25, 3) := by decide +kernel
theorem dX5_drawnYears_49 : decode cX5_drawnYears 49 = .ok (.iconst 1, 1) := by decide +kernel
theorem dX5_drawnYears_50 : decode cX5_drawnYears 50 = .ok (.invokevirtual 109, 3) := by decide +kernel
theorem dX5_drawnYears_53 : decode cX5_drawnYears 53 = .ok (.iadd, 1) := by decide +kernel
theorem dX5_drawnYears_54 : decode cX5_drawnYears 54 = .ok (.istore_n 3, 1) := by decide +kernel
theorem dX5_drawnYears_55 : decode cX5_drawnYears 55 = .ok (.goto 19, 3) := by decide +kernel
theorem dX5_drawnYears_58 : decode cX5_drawnYears 58 = .ok (.aload_n 0, 1) := by decide +kernel
theorem dX5_drawnYears_59 : decode cX5_drawnYears 59 = .ok (.getfield 12, 3) := by decide +kernel
theorem dX5_drawnYears_62 : decode cX5_drawnYears 62 = .ok (.getfield 94, 3) := by decide +kernel
theorem dX5_drawnYears_65 : decode cX5_drawnYears 65 = .ok (.ifCond .le 9, 3) := by decide +kernel
theorem dX5_drawnYears_68 : decode cX5_drawnYears 68 = .ok (.aload_n 0, 1) := by decide +kernel
theorem dX5_drawnYears_69 : decode cX5_drawnYears 69 = .ok (.iload 5, 2) := by decide +kernel
theorem dX5_drawnYears_71 : decode cX5_drawnYears 71 = .ok (.invokevirtual 119, 3) := by decide +kernel
theorem dX5_drawnYears_74 : decode cX5_drawnYears 74 = .ok (.iinc 4 1, 3) := by decide +kernel
theorem dX5_drawnYears_77 : decode cX5_drawnYears 77 = .ok (.goto (-56), 3) := by decide +kernel
theorem dX5_drawnYears_80 : decode cX5_drawnYears 80 = .ok (.aload_n 0, 1) := by decide +kernel
theorem dX5_drawnYears_81 : decode cX5_drawnYears 81 = .ok (.getfield 29, 3) := by decide +kernel
theorem dX5_drawnYears_84 : decode cX5_drawnYears 84 = .ok (.iload_n 3, 1) := by decide +kernel
theorem dX5_drawnYears_85 : decode cX5_drawnYears 85 = .ok (.i2l, 1) := by decide +kernel
theorem dX5_drawnYears_86 : decode cX5_drawnYears 86 = .ok (.aload_n 0, 1) := by decide +kernel
theorem dX5_drawnYears_87 : decode cX5_drawnYears 87 = .ok (.getfield 12, 3) := by decide +kernel
theorem dX5_drawnYears_90 : decode cX5_drawnYears 90 = .ok (.invokevirtual 122, 3) := by decide +kernel
theorem dX5_drawnYears_93 : decode cX5_drawnYears 93 = .ok (.i2l, 1) := by decide +kernel
theorem dX5_drawnYears_94 : decode cX5_drawnYears 94 = .ok (.invokevirtual 63, 3) := by decide +kernel
theorem dX5_drawnYears_97 : decode cX5_drawnYears 97 = .ok (.aload_n 0, 1) := by decide +kernel
theorem dX5_drawnYears_98 : decode cX5_drawnYears 98 = .ok (.getfield 12, 3) := by decide +kernel
theorem dX5_drawnYears_101 : decode cX5_drawnYears 101 = .ok (.getfield 37, 3) := by decide +kernel
theorem dX5_drawnYears_104 : decode cX5_drawnYears 104 = .ok (.ireturn, 1) := by decide +kernel
theorem dX5_drawnAct_0 : decode cX5_drawnAct 0 = .ok (.aload_n 0, 1) := by decide +kernel
theorem dX5_drawnAct_1 : decode cX5_drawnAct 1 = .ok (.aload_n 0, 1) := by decide +kernel
theorem dX5_drawnAct_2 : decode cX5_drawnAct 2 = .ok (.getfield 12, 3) := by decide +kernel
theorem dX5_drawnAct_5 : decode cX5_drawnAct 5 = .ok (.getfield 94, 3) := by decide +kernel
theorem dX5_drawnAct_8 : decode cX5_drawnAct 8 = .ok (.invokevirtual 116, 3) := by decide +kernel
theorem dX5_drawnAct_11 : decode cX5_drawnAct 11 = .ok (.istore_n 2, 1) := by decide +kernel
theorem dX5_drawnAct_12 : decode cX5_drawnAct 12 = .ok (.iload_n 1, 1) := by decide +kernel
theorem dX5_drawnAct_13 : decode cX5_drawnAct 13 = .ok (.iconst 2, 1) := by decide +kernel
theorem dX5_drawnAct_14 : decode cX5_drawnAct 14 = .ok (.if_icmp .ne 15, 3) := by decide +kernel
theorem dX5_drawnAct_17 : decode cX5_drawnAct 17 = .ok (.aload_n 0, 1) := by decide +kernel
theorem dX5_drawnAct_18 : decode cX5_drawnAct 18 = .ok (.getfield 12, 3) := by decide +kernel
theorem dX5_drawnAct_21 : decode cX5_drawnAct 21 = .ok (.iload_n 2, 1) := by decide +kernel
theorem dX5_drawnAct_22 : decode cX5_drawnAct 22 = .ok (.invokevirtual 100, 3) := by decide +kernel
theorem dX5_drawnAct_25 : decode cX5_drawnAct 25 = .ok (.pop, 1) := by decide +kernel
theorem dX5_drawnAct_26 : decode cX5_drawnAct 26 = .ok (.goto 19, 3) := by decide +kernel
theorem dX5_drawnAct_29 : decode cX5_drawnAct 29 = .ok (.aload_n 0, 1) := by decide +kernel
theorem dX5_drawnAct_30 : decode cX5_drawnAct 30 = .ok (.getfield 12, 3) := by decide +kernel
theorem dX5_drawnAct_33 : decode cX5_drawnAct 33 = .ok (.iload_n 2, 1) := by decide +kernel
theorem dX5_drawnAct_34 : decode cX5_drawnAct 34 = .ok (.aload_n 0, 1) := by decide +kernel
theorem dX5_drawnAct_35 : decode cX5_drawnAct 35 = .ok (.iconst 3, 1) := by decide +kernel
theorem dX5_drawnAct_36 : decode cX5_drawnAct 36 = .ok (.invokevirtual 116, 3) := by decide +kernel
theorem dX5_drawnAct_39 : decode cX5_drawnAct 39 = .ok (.iconst 1, 1) := by decide +kernel
theorem dX5_drawnAct_40 : decode cX5_drawnAct 40 = .ok (.iadd, 1) := by decide +kernel
theorem dX5_drawnAct_41 : decode cX5_drawnAct 41 = .ok (.invokevirtual 125, 3) := by decide +kernel
theorem dX5_drawnAct_44 : decode cX5_drawnAct 44 = .ok (.pop, 1) := by decide +kernel
theorem dX5_drawnAct_45 : decode cX5_drawnAct 45 = .ok (.return_, 1) := by decide +kernel
theorem dX5_draw_0 : decode cX5_draw 0 = .ok (.aload_n 0, 1) := by decide +kernel
theorem dX5_draw_1 : decode cX5_draw 1 = .ok (.aload_n 0, 1) := by decide +kernel
theorem dX5_draw_2 : decode cX5_draw 2 = .ok (.getfield 18, 3) := by decide +kernel
theorem dX5_draw_5 : decode cX5_draw 5 = .ok (.ldc 128, 2) := by decide +kernel
theorem dX5_draw_7 : decode cX5_draw 7 = .ok (.imul, 1) := by decide +kernel
theorem dX5_draw_8 : decode cX5_draw 8 = .ok (.sipush 12345, 3) := by decide +kernel
theorem dX5_draw_11 : decode cX5_draw 11 = .ok (.iadd, 1) := by decide +kernel
theorem dX5_draw_12 : decode cX5_draw 12 = .ok (.putfield 18, 3) := by decide +kernel
theorem dX5_draw_15 : decode cX5_draw 15 = .ok (.iload_n 1, 1) := by decide +kernel
theorem dX5_draw_16 : decode cX5_draw 16 = .ok (.ifCond .le 15, 3) := by decide +kernel
theorem dX5_draw_19 : decode cX5_draw 19 = .ok (.aload_n 0, 1) := by decide +kernel
theorem dX5_draw_20 : decode cX5_draw 20 = .ok (.getfield 18, 3) := by decide +kernel
theorem dX5_draw_23 : decode cX5_draw 23 = .ok (.bipush 16, 2) := by decide +kernel
theorem dX5_draw_25 : decode cX5_draw 25 = .ok (.iushr, 1) := by decide +kernel
theorem dX5_draw_26 : decode cX5_draw 26 = .ok (.iload_n 1, 1) := by decide +kernel
theorem dX5_draw_27 : decode cX5_draw 27 = .ok (.irem, 1) := by decide +kernel
theorem dX5_draw_28 : decode cX5_draw 28 = .ok (.goto 4, 3) := by decide +kernel
theorem dX5_draw_31 : decode cX5_draw 31 = .ok (.iconst 0, 1) := by decide +kernel
theorem dX5_draw_32 : decode cX5_draw 32 = .ok (.ireturn, 1) := by decide +kernel
theorem dX6_init_0 : decode cX6_init 0 = .ok (.aload_n 0, 1) := by decide +kernel
theorem dX6_init_1 : decode cX6_init 1 = .ok (.invokespecial 3, 3) := by decide +kernel
theorem dX6_init_4 : decode cX6_init 4 = .ok (.aload_n 0, 1) := by decide +kernel
theorem dX6_init_5 : decode cX6_init 5 = .ok (.bipush 40, 2) := by decide +kernel
theorem dX6_init_7 : decode cX6_init 7 = .ok (.newarray .int, 2) := by decide +kernel
theorem dX6_init_9 : decode cX6_init 9 = .ok (.putfield 11, 3) := by decide +kernel
theorem dX6_init_12 : decode cX6_init 12 = .ok (.aload_n 0, 1) := by decide +kernel
theorem dX6_init_13 : decode cX6_init 13 = .ok (.bipush 40, 2) := by decide +kernel
theorem dX6_init_15 : decode cX6_init 15 = .ok (.newarray .int, 2) := by decide +kernel
theorem dX6_init_17 : decode cX6_init 17 = .ok (.putfield 15, 3) := by decide +kernel
theorem dX6_init_20 : decode cX6_init 20 = .ok (.aload_n 0, 1) := by decide +kernel
theorem dX6_init_21 : decode cX6_init 21 = .ok (.iconst 0, 1) := by decide +kernel
theorem dX6_init_22 : decode cX6_init 22 = .ok (.putfield 18, 3) := by decide +kernel
theorem dX6_init_25 : decode cX6_init 25 = .ok (.aload_n 0, 1) := by decide +kernel
theorem dX6_init_26 : decode cX6_init 26 = .ok (.bipush 40, 2) := by decide +kernel
theorem dX6_init_28 : decode cX6_init 28 = .ok (.newarray .int, 2) := by decide +kernel
theorem dX6_init_30 : decode cX6_init 30 = .ok (.putfield 22, 3) := by decide +kernel
theorem dX6_init_33 : decode cX6_init 33 = .ok (.aload_n 0, 1) := by decide +kernel
theorem dX6_init_34 : decode cX6_init 34 = .ok (.iconst 0, 1) := by decide +kernel
theorem dX6_init_35 : decode cX6_init 35 = .ok (.putfield 25, 3) := by decide +kernel
theorem dX6_init_38 : decode cX6_init 38 = .ok (.aload_n 0, 1) := by decide +kernel
theorem dX6_init_39 : decode cX6_init 39 = .ok (.iconst 0, 1) := by decide +kernel
theorem dX6_init_40 : decode cX6_init 40 = .ok (.putfield 28, 3) := by decide +kernel
theorem dX6_init_43 : decode cX6_init 43 = .ok (.aload_n 0, 1) := by decide +kernel
theorem dX6_init_44 : decode cX6_init 44 = .ok (.iconst 0, 1) := by decide +kernel
theorem dX6_init_45 : decode cX6_init 45 = .ok (.putfield 31, 3) := by decide +kernel
theorem dX6_init_48 : decode cX6_init 48 = .ok (.aload_n 0, 1) := by decide +kernel
theorem dX6_init_49 : decode cX6_init 49 = .ok (.iconst 1, 1) := by decide +kernel
theorem dX6_init_50 : decode cX6_init 50 = .ok (.putfield 34, 3) := by decide +kernel
theorem dX6_init_53 : decode cX6_init 53 = .ok (.aload_n 0, 1) := by decide +kernel
theorem dX6_init_54 : decode cX6_init 54 = .ok (.iconst 0, 1) := by decide +kernel
theorem dX6_init_55 : decode cX6_init 55 = .ok (.putfield 38, 3) := by decide +kernel
theorem dX6_init_58 : decode cX6_init 58 = .ok (.aload_n 0, 1) := by decide +kernel
theorem dX6_init_59 : decode cX6_init 59 = .ok (.invokevirtual 41, 3) := by decide +kernel
theorem dX6_init_62 : decode cX6_init 62 = .ok (.return_, 1) := by decide +kernel
theorem dX6_beNone_0 : decode cX6_beNone 0 = .ok (.aload_n 0, 1) := by decide +kernel
theorem dX6_beNone_1 : decode cX6_beNone 1 = .ok (.iconst 0, 1) := by decide +kernel
theorem dX6_beNone_2 : decode cX6_beNone 2 = .ok (.putfield 18, 3) := by decide +kernel
theorem dX6_beNone_5 : decode cX6_beNone 5 = .ok (.aload_n 0, 1) := by decide +kernel
theorem dX6_beNone_6 : decode cX6_beNone 6 = .ok (.iconst 1, 1) := by decide +kernel
theorem dX6_beNone_7 : decode cX6_beNone 7 = .ok (.invokevirtual 44, 3) := by decide +kernel
theorem dX6_beNone_10 : decode cX6_beNone 10 = .ok (.aload_n 0, 1) := by decide +kernel
theorem dX6_beNone_11 : decode cX6_beNone 11 = .ok (.bipush 112, 2) := by decide +kernel
theorem dX6_beNone_13 : decode cX6_beNone 13 = .ok (.invokevirtual 48, 3) := by decide +kernel
theorem dX6_beNone_16 : decode cX6_beNone 16 = .ok (.aload_n 0, 1) := by decide +kernel
theorem dX6_beNone_17 : decode cX6_beNone 17 = .ok (.iconst 4, 1) := by decide +kernel
theorem dX6_beNone_18 : decode cX6_beNone 18 = .ok (.invokevirtual 44, 3) := by decide +kernel
theorem dX6_beNone_21 : decode cX6_beNone 21 = .ok (.aload_n 0, 1) := by decide +kernel
theorem dX6_beNone_22 : decode cX6_beNone 22 = .ok (.bipush 47, 2) := by decide +kernel
theorem dX6_beNone_24 : decode cX6_beNone 24 = .ok (.invokevirtual 48, 3) := by decide +kernel
theorem dX6_beNone_27 : decode cX6_beNone 27 = .ok (.aload_n 0, 1) := by decide +kernel
theorem dX6_beNone_28 : decode cX6_beNone 28 = .ok (.bipush 43, 2) := by decide +kernel
theorem dX6_beNone_30 : decode cX6_beNone 30 = .ok (.invokevirtual 48, 3) := by decide +kernel
theorem dX6_beNone_33 : decode cX6_beNone 33 = .ok (.return_, 1) := by decide +kernel
theorem dX6_copyFrom_0 : decode cX6_copyFrom 0 = .ok (.aload_n 0, 1) := by decide +kernel
theorem dX6_copyFrom_1 : decode cX6_copyFrom 1 = .ok (.aload_n 1, 1) := by decide +kernel
theorem dX6_copyFrom_2 : decode cX6_copyFrom 2 = .ok (.getfield 18, 3) := by decide +kernel
theorem dX6_copyFrom_5 : decode cX6_copyFrom 5 = .ok (.putfield 18, 3) := by decide +kernel
theorem dX6_copyFrom_8 : decode cX6_copyFrom 8 = .ok (.aload_n 1, 1) := by decide +kernel
theorem dX6_copyFrom_9 : decode cX6_copyFrom 9 = .ok (.getfield 11, 3) := by decide +kernel
theorem dX6_copyFrom_12 : decode cX6_copyFrom 12 = .ok (.iconst 0, 1) := by decide +kernel
theorem dX6_copyFrom_13 : decode cX6_copyFrom 13 = .ok (.aload_n 0, 1) := by decide +kernel
theorem dX6_copyFrom_14 : decode cX6_copyFrom 14 = .ok (.getfield 11, 3) := by decide +kernel
theorem dX6_copyFrom_17 : decode cX6_copyFrom 17 = .ok (.iconst 0, 1) := by decide +kernel
theorem dX6_copyFrom_18 : decode cX6_copyFrom 18 = .ok (.bipush 40, 2) := by decide +kernel
theorem dX6_copyFrom_20 : decode cX6_copyFrom 20 = .ok (.invokestatic 51, 3) := by decide +kernel
theorem dX6_copyFrom_23 : decode cX6_copyFrom 23 = .ok (.return_, 1) := by decide +kernel
theorem dX6_stepsOf_0 : decode cX6_stepsOf 0 = .ok (.iconst 0, 1) := by decide +kernel
theorem dX6_stepsOf_1 : decode cX6_stepsOf 1 = .ok (.istore_n 3, 1) := by decide +kernel
theorem dX6_stepsOf_2 : decode cX6_stepsOf 2 = .ok (.iconst 0, 1) := by decide +kernel
theorem dX6_stepsOf_3 : decode cX6_stepsOf 3 = .ok (.istore 4, 2) := by decide +kernel
theorem dX6_stepsOf_5 : decode cX6_stepsOf 5 = .ok (.iload 4, 2) := by decide +kernel
theorem dX6_stepsOf_7 : decode cX6_stepsOf 7 = .ok (.aload_n 0, 1) := by decide +kernel
theorem dX6_stepsOf_8 : decode cX6_stepsOf 8 = .ok (.getfield 18, 3) := by decide +kernel
theorem dX6_stepsOf_11 : decode cX6_stepsOf 11 = .ok (.if_icmp .ge 166, 3) := by decide +kernel
theorem dX6_stepsOf_14 : decode cX6_stepsOf 14 = .ok (.iload 4, 2) := by decide +kernel
theorem dX6_stepsOf_16 : decode cX6_stepsOf 16 = .ok (.bipush 40, 2) := by decide +kernel
theorem dX6_stepsOf_18 : decode cX6_stepsOf 18 = .ok (.if_icmp .ge 159, 3) := by decide +kernel
theorem dX6_stepsOf_21 : decode cX6_stepsOf 21 = .ok (.aload_n 0, 1) := by decide +kernel
theorem dX6_stepsOf_22 : decode cX6_stepsOf 22 = .ok (.getfield 11, 3) := by decide +kernel
theorem dX6_stepsOf_25 : decode cX6_stepsOf 25 = .ok (.iload 4, 2) := by decide +kernel
theorem dX6_stepsOf_27 : decode cX6_stepsOf 27 = .ok (.iaload, 1) := by decide +kernel
theorem dX6_stepsOf_28 : decode cX6_stepsOf 28 = .ok (.sipush 1000, 3) := by decide +kernel
theorem dX6_stepsOf_31 : decode cX6_stepsOf 31 = .ok (.isub, 1) := by decide +kernel
theorem dX6_stepsOf_32 : decode cX6_stepsOf 32 = .ok (.istore 5, 2) := by decide +kernel
theorem dX6_stepsOf_34 : decode cX6_stepsOf 34 = .ok (.iload 5, 2) := by decide +kernel
theorem dX6_stepsOf_36 : decode cX6_stepsOf 36 = .ok (.ifCond .lt 11, 3) := by decide +kernel
theorem dX6_stepsOf_39 : decode cX6_stepsOf 39 = .ok (.iload 5, 2) := by decide +kernel
theorem dX6_stepsOf_41 : decode cX6_stepsOf 41 = .ok (.invokestatic 57, 3) := by decide +kernel
theorem dX6_stepsOf_44 : decode cX6_stepsOf 44 = .ok (.ifCond .eq 47, 3) := by decide +kernel
theorem dX6_stepsOf_47 : decode cX6_stepsOf 47 = .ok (.iload_n 3, 1) := by decide +kernel
theorem dX6_stepsOf_48 : decode cX6_stepsOf 48 = .ok (.ifCond .lt 123, 3) := by decide +kernel
theorem dX6_stepsOf_51 : decode cX6_stepsOf 51 = .ok (.iload_n 3, 1) := by decide +kernel
theorem dX6_stepsOf_52 : decode cX6_stepsOf 52 = .ok (.bipush 40, 2) := by decide +kernel
theorem dX6_stepsOf_54 : decode cX6_stepsOf 54 = .ok (.if_icmp .ge 117, 3) := by decide +kernel
theorem dX6_stepsOf_57 : decode cX6_stepsOf 57 = .ok (.aload_n 0, 1) := by decide +kernel
theorem dX6_stepsOf_58 : decode cX6_stepsOf 58 = .ok (.getfield 15, 3) := by decide +kernel
theorem dX6_stepsOf_61 : decode cX6_stepsOf 61 = .ok (.iload_n 3, 1) := by decide +kernel
theorem dX6_stepsOf_62 : decode cX6_stepsOf 62 = .ok (.iload 5, 2) := by decide +kernel
theorem dX6_stepsOf_64 : decode cX6_stepsOf 64 = .ok (.ifCond .ge 13, 3) := by decide +kernel
theorem dX6_stepsOf_67 : decode cX6_stepsOf 67 = .ok (.aload_n 0, 1) := by decide +kernel
theorem dX6_stepsOf_68 : decode cX6_stepsOf 68 = .ok (.getfield 11, 3) := by decide +kernel
theorem dX6_stepsOf_71 : decode cX6_stepsOf 71 = .ok (.iload 4, 2) := by decide +kernel
theorem dX6_stepsOf_73 : decode cX6_stepsOf 73 = .ok (.iaload, 1) := by decide +kernel
theorem dX6_stepsOf_74 : decode cX6_stepsOf 74 = .ok (.goto 10, 3) := by decide +kernel
theorem dX6_stepsOf_77 : decode cX6_stepsOf 77 = .ok (.aload_n 1, 1) := by decide +kernel
theorem dX6_stepsOf_78 : decode cX6_stepsOf 78 = .ok (.iload 5, 2) := by decide +kernel
theorem dX6_stepsOf_80 : decode cX6_stepsOf 80 = .ok (.iload_n 2, 1) := by decide +kernel
theorem dX6_stepsOf_81 : decode cX6_stepsOf 81 = .ok (.invokevirtual 61, 3) := by decide +kernel
theorem dX6_stepsOf_84 : decode cX6_stepsOf 84 = .ok (.iastore, 1) := by decide +kernel
theorem dX6_stepsOf_85 : decode cX6_stepsOf 85 = .ok (.iinc 3 1, 3) := by decide +kernel
theorem dX6_stepsOf_88 : decode cX6_stepsOf 88 = .ok (.goto 83, 3) := by decide +kernel
theorem dX6_stepsOf_91 : decode cX6_stepsOf 91 = .ok (.iload 5, 2) := by decide +kernel
theorem dX6_stepsOf_93 : decode cX6_stepsOf 93 = .ok (.sipush 256, 3) := by decide +kernel
theorem dX6_stepsOf_96 : decode cX6_stepsOf 96 = .ok (.if_icmp .ne 34, 3) := by decide +kernel
theorem dX6_stepsOf_99 : decode cX6_stepsOf 99 = .ok (.iload_n 3, 1) := by decide +kernel
theorem dX6_stepsOf_100 : decode cX6_stepsOf 100 = .ok (.iconst 1, 1) := by decide +kernel
theorem dX6_stepsOf_101 : decode cX6_stepsOf 101 = .ok (.if_icmp .lt 70, 3) := by decide +kernel
theorem dX6_stepsOf_104 : decode cX6_stepsOf 104 = .ok (.iload_n 3, 1) := by decide +kernel
theorem dX6_stepsOf_105 : decode cX6_stepsOf 105 = .ok (.bipush 40, 2) := by decide +kernel
theorem dX6_stepsOf_107 : decode cX6_stepsOf 107 = .ok (.if_icmp .gt 64, 3) := by decide +kernel
theorem dX6_stepsOf_110 : decode cX6_stepsOf 110 = .ok (.aload_n 0, 1) := by decide +kernel
theorem dX6_stepsOf_111 : decode cX6_stepsOf 111 = .ok (.getfield 15, 3) := by decide +kernel
theorem dX6_stepsOf_114 : decode cX6_stepsOf 114 = .ok (.iload_n 3, 1) := by decide +kernel
theorem dX6_stepsOf_115 : decode cX6_stepsOf 115 = .ok (.iconst 1, 1) := by decide +kernel
theorem dX6_stepsOf_116 : decode cX6_stepsOf 116 = .ok (.isub, 1) := by decide +kernel
theorem dX6_stepsOf_117 : decode cX6_stepsOf 117 = .ok (.aload_n 0, 1) := by decide +kernel
theorem dX6_stepsOf_118 : decode cX6_stepsOf 118 = .ok (.getfield 15, 3) := by decide +kernel
theorem dX6_stepsOf_121 : decode cX6_stepsOf 121 = .ok (.iload_n 3, 1) := by decide +kernel
theorem dX6_stepsOf_122 : decode cX6_stepsOf 122 = .ok (.iconst 1, 1) := by decide +kernel
theorem dX6_stepsOf_123 : decode cX6_stepsOf 123 = .ok (.isub, 1) := by decide +kernel
theorem dX6_stepsOf_124 : decode cX6_stepsOf 124 = .ok (.iaload, 1) := by decide +kernel
theorem dX6_stepsOf_125 : decode cX6_stepsOf 125 = .ok (.ineg, 1) := by decide +kernel
theorem dX6_stepsOf_126 : decode cX6_stepsOf 126 = .ok (.iastore, 1) := by decide +kernel
theorem dX6_stepsOf_127 : decode cX6_stepsOf 127 = .ok (.goto 44, 3) := by decide +kernel
theorem dX6_stepsOf_130 : decode cX6_stepsOf 130 = .ok (.iload_n 3, 1) := by decide +kernel
theorem dX6_stepsOf_131 : decode cX6_stepsOf 131 = .ok (.iconst 2, 1) := by decide +kernel
theorem dX6_stepsOf_132 : decode cX6_stepsOf 132 = .ok (.if_icmp .lt 39, 3) := by decide +kernel
theorem dX6_stepsOf_135 : decode cX6_stepsOf 135 = .ok (.iload_n 3, 1) := by decide +kernel
theorem dX6_stepsOf_136 : decode cX6_stepsOf 136 = .ok (.bipush 40, 2) := by decide +kernel
theorem dX6_stepsOf_138 : decode cX6_stepsOf 138 = .ok (.if_icmp .gt 33, 3) := by decide +kernel
theorem dX6_stepsOf_141 : decode cX6_stepsOf 141 = .ok (.iinc 3 (-1), 3) := by decide +kernel
theorem dX6_stepsOf_144 : decode cX6_stepsOf 144 = .ok (.aload_n 0, 1) := by decide +kernel
theorem dX6_stepsOf_145 : decode cX6_stepsOf 145 = .ok (.getfield 15, 3) := by decide +kernel
theorem dX6_stepsOf_148 : decode cX6_stepsOf 148 = .ok (.iload_n 3, 1) := by decide +kernel
theorem dX6_stepsOf_149 : decode cX6_stepsOf 149 = .ok (.iconst 1, 1) := by decide +kernel
theorem dX6_stepsOf_150 : decode cX6_stepsOf 150 = .ok (.isub, 1) := by decide +kernel
theorem dX6_stepsOf_151 : decode cX6_stepsOf 151 = .ok (.iload 5, 2) := by decide +kernel
theorem dX6_stepsOf_153 : decode cX6_stepsOf 153 = .ok (.aload_n 0, 1) := by decide +kernel
theorem dX6_stepsOf_154 : decode cX6_stepsOf 154 = .ok (.getfield 15, 3) := by decide +kernel
theorem dX6_stepsOf_157 : decode cX6_stepsOf 157 = .ok (.iload_n 3, 1) := by decide +kernel
theorem dX6_stepsOf_158 : decode cX6_stepsOf 158 = .ok (.iconst 1, 1) := by decide +kernel
theorem dX6_stepsOf_159 : decode cX6_stepsOf 159 = .ok (.isub, 1) := by decide +kernel
theorem dX6_stepsOf_160 : decode cX6_stepsOf 160 = .ok (.iaload, 1) := by decide +kernel
theorem dX6_stepsOf_161 : decode cX6_stepsOf 161 = .ok (.aload_n 0, 1) := by decide +kernel
theorem dX6_stepsOf_162 : decode cX6_stepsOf 162 = .ok (.getfield 15, 3) := by decide +kernel
theorem dX6_stepsOf_165 : decode cX6_stepsOf 165 = .ok (.iload_n 3, 1) := by decide +kernel
theorem dX6_stepsOf_166 : decode cX6_stepsOf 166 = .ok (.iaload, 1) := by decide +kernel
theorem dX6_stepsOf_167 : decode cX6_stepsOf 167 = .ok (.invokestatic 67, 3) := by decide +kernel
theorem dX6_stepsOf_170 : decode cX6_stepsOf 170 = .ok (.iastore, 1) := by decide +kernel
theorem dX6_stepsOf_171 : decode cX6_stepsOf 171 = .ok (.iinc 4 1, 3) := by decide +kernel
theorem dX6_stepsOf_174 : decode cX6_stepsOf 174 = .ok (.goto (-169), 3) := by decide +kernel
theorem dX6_stepsOf_177 : decode cX6_stepsOf 177 = .ok (.iload_n 3, 1) := by decide +kernel
theorem dX6_stepsOf_178 : decode cX6_stepsOf 178 = .ok (.ifCond .le 17, 3) := by decide +kernel
theorem dX6_stepsOf_181 : decode cX6_stepsOf 181 = .ok (.aload_n 0, 1) := by decide +kernel
theorem dX6_stepsOf_182 : decode cX6_stepsOf 182 = .ok (.getfield 15, 3) := by decide +kernel
theorem dX6_stepsOf_185 : decode cX6_stepsOf 185 = .ok (.iconst 0, 1) := by decide +kernel
theorem dX6_stepsOf_186 : decode cX6_stepsOf 186 = .ok (.iaload, 1) := by decide +kernel
theorem dX6_stepsOf_187 : decode cX6_stepsOf 187 = .ok (.iconst 0, 1) := by decide +kernel
theorem dX6_stepsOf_188 : decode cX6_stepsOf 188 = .ok (.iconst 3, 1) := by decide +kernel
theorem dX6_stepsOf_189 : decode cX6_stepsOf 189 = .ok (.invokestatic 71, 3) := by decide +kernel
theorem dX6_stepsOf_192 : decode cX6_stepsOf 192 = .ok (.goto 4, 3) := by decide +kernel
theorem dX6_stepsOf_195 : decode cX6_stepsOf 195 = .ok (.iconst 0, 1) := by decide +kernel
theorem dX6_stepsOf_196 : decode cX6_stepsOf 196 = .ok (.ireturn, 1) := by decide +kernel
theorem dX6_joined_0 : decode cX6_joined 0 = .ok (.iload_n 0, 1) := by decide +kernel
theorem dX6_joined_1 : decode cX6_joined 1 = .ok (.tableswitch 156 42 62 #[107, 99, 156, 103, 156, 111, 156, 156, 156, 156, 156, 156, 156, 156, 156, 156, 156, 156, 123, 145, 134], 99) := by decide +kernel
theorem dX6_joined_100 : decode cX6_joined 100 = .ok (.iload_n 1, 1) := by decide +kernel
theorem dX6_joined_101 : decode cX6_joined 101 = .ok (.iload_n 2, 1) := by decide +kernel
theorem dX6_joined_102 : decode cX6_joined 102 = .ok (.iadd, 1) := by decide +kernel
theorem dX6_joined_103 : decode cX6_joined 103 = .ok (.ireturn, 1) := by decide +kernel
theorem dX6_joined_104 : decode cX6_joined 104 = .ok (.iload_n 1, 1) := by decide +kernel
theorem dX6_joined_105 : decode cX6_joined 105 = .ok (.iload_n 2, 1) := by decide +kernel
theorem dX6_joined_106 : decode cX6_joined 106 = .ok (.isub, 1) := by decide +kernel
theorem dX6_joined_107 : decode cX6_joined 107 = .ok (.ireturn, 1) := by decide +kernel
theorem dX6_joined_108 : decode cX6_joined 108 = .ok (.iload_n 1, 1) := by decide +kernel
theorem dX6_joined_109 : decode cX6_joined 109 = .ok (.iload_n 2, 1) := by decide +kernel
theorem dX6_joined_110 : decode cX6_joined 110 = .ok (.imul, 1) := by decide +kernel
theorem dX6_joined_111 : decode cX6_joined 111 = .ok (.ireturn, 1) := by decide +kernel
theorem dX6_joined_112 : decode cX6_joined 112 = .ok (.iload_n 2, 1) := by decide +kernel
theorem dX6_joined_113 : decode cX6_joined 113 = .ok (.ifCond .ne 7, 3) := by decide +kernel
theorem dX6_joined_116 : decode cX6_joined 116 = .ok (.iconst 0, 1) := by decide +kernel
theorem dX6_joined_117 : decode cX6_joined 117 = .ok (.goto 6, 3) := by decide +kernel
theorem dX6_joined_120 : decode cX6_joined 120 = .ok (.iload_n 1, 1) := by decide +kernel
theorem dX6_joined_121 : decode cX6_joined 121 = .ok (.iload_n 2, 1) := by decide +kernel
theorem dX6_joined_122 : decode cX6_joined 122 = .ok (.idiv, 1) := by decide +kernel
theorem dX6_joined_123 : decode cX6_joined 123 = .ok (.ireturn, 1) := by decide +kernel
theorem dX6_joined_124 : decode cX6_joined 124 = .ok (.iload_n 1, 1) := by decide +kernel
theorem dX6_joined_125 : decode cX6_joined 125 = .ok (.iload_n 2, 1) := by decide +kernel
theorem dX6_joined_126 : decode cX6_joined 126 = .ok (.if_icmp .ge 7, 3) := by decide +kernel
theorem dX6_joined_129 : decode cX6_joined 129 = .ok (.iconst 1, 1) := by decide +kernel
theorem dX6_joined_130 : decode cX6_joined 130 = .ok (.goto 4, 3) := by decide +kernel
theorem dX6_joined_133 : decode cX6_joined 133 = .ok (.iconst 0, 1) := by decide +kernel
theorem dX6_joined_134 : decode cX6_joined 134 = .ok (.ireturn, 1) := by decide +kernel
theorem dX6_joined_135 : decode cX6_joined 135 = .ok (.iload_n 1, 1) := by decide +kernel
theorem dX6_joined_136 : decode cX6_joined 136 = .ok (.iload_n 2, 1) := by decide +kernel
theorem dX6_joined_137 : decode cX6_joined 137 = .ok (.if_icmp .le 7, 3) := by decide +kernel
theorem dX6_joined_140 : decode cX6_joined 140 = .ok (.iconst 1, 1) := by decide +kernel
theorem dX6_joined_141 : decode cX6_joined 141 = .ok (.goto 4, 3) := by decide +kernel
theorem dX6_joined_144 : decode cX6_joined 144 = .ok (.iconst 0, 1) := by decide +kernel
theorem dX6_joined_145 : decode cX6_joined 145 = .ok (.ireturn, 1) := by decide +kernel
theorem dX6_joined_146 : decode cX6_joined 146 = .ok (.iload_n 1, 1) := by decide +kernel
theorem dX6_joined_147 : decode cX6_joined 147 = .ok (.iload_n 2, 1) := by decide +kernel
theorem dX6_joined_148 : decode cX6_joined 148 = .ok (.if_icmp .ne 7, 3) := by decide +kernel
theorem dX6_joined_151 : decode cX6_joined 151 = .ok (.iconst 1, 1) := by decide +kernel
theorem dX6_joined_152 : decode cX6_joined 152 = .ok (.goto 4, 3) := by decide +kernel
theorem dX6_joined_155 : decode cX6_joined 155 = .ok (.iconst 0, 1) := by decide +kernel
theorem dX6_joined_156 : decode cX6_joined 156 = .ok (.ireturn, 1) := by decide +kernel
theorem dX6_joined_157 : decode cX6_joined 157 = .ok (.iconst 0, 1) := by decide +kernel
theorem dX6_joined_158 : decode cX6_joined 158 = .ok (.ireturn, 1) := by decide +kernel
theorem dX6_read_0 : decode cX6_read 0 = .ok (.aload_n 1, 1) := by decide +kernel
theorem dX6_read_1 : decode cX6_read 1 = .ok (.getfield 74, 3) := by decide +kernel
theorem dX6_read_4 : decode cX6_read 4 = .ok (.ifCond .ne 9, 3) := by decide +kernel
theorem dX6_read_7 : decode cX6_read 7 = .ok (.aload_n 0, 1) := by decide +kernel
theorem dX6_read_8 : decode cX6_read 8 = .ok (.invokevirtual 41, 3) := by decide +kernel
theorem dX6_read_11 : decode cX6_read 11 = .ok (.iconst (-1), 1) := by decide +kernel
theorem dX6_read_12 : decode cX6_read 12 = .ok (.ireturn, 1) := by decide +kernel
theorem dX6_read_13 : decode cX6_read 13 = .ok (.aload_n 0, 1) := by decide +kernel
theorem dX6_read_14 : decode cX6_read 14 = .ok (.invokevirtual 77, 3) := by decide +kernel
theorem dX6_read_17 : decode cX6_read 17 = .ok (.iconst 0, 1) := by decide +kernel
theorem dX6_read_18 : decode cX6_read 18 = .ok (.istore_n 2, 1) := by decide +kernel
theorem dX6_read_19 : decode cX6_read 19 = .ok (.iload_n 2, 1) := by decide +kernel
theorem dX6_read_20 : decode cX6_read 20 = .ok (.aload_n 1, 1) := by decide +kernel
theorem dX6_read_21 : decode cX6_read 21 = .ok (.getfield 74, 3) := by decide +kernel
theorem dX6_read_24 : decode cX6_read 24 = .ok (.if_icmp .ge 49, 3) := by decide +kernel
theorem dX6_read_27 : decode cX6_read 27 = .ok (.iload_n 2, 1) := by decide +kernel
theorem dX6_read_28 : decode cX6_read 28 = .ok (.bipush 40, 2) := by decide +kernel
theorem dX6_read_30 : decode cX6_read 30 = .ok (.if_icmp .ge 43, 3) := by decide +kernel
theorem dX6_read_33 : decode cX6_read 33 = .ok (.aload_n 1, 1) := by decide +kernel
theorem dX6_read_34 : decode cX6_read 34 = .ok (.iload_n 2, 1) := by decide +kernel
theorem dX6_read_35 : decode cX6_read 35 = .ok (.invokevirtual 80, 3) := by decide +kernel
theorem dX6_read_38 : decode cX6_read 38 = .ok (.istore_n 3, 1) := by decide +kernel
theorem dX6_read_39 : decode cX6_read 39 = .ok (.aload_n 0, 1) := by decide +kernel
theorem dX6_read_40 : decode cX6_read 40 = .ok (.getfield 34, 3) := by decide +kernel
theorem dX6_read_43 : decode cX6_read 43 = .ok (.ifCond .eq 14, 3) := by decide +kernel
theorem dX6_read_46 : decode cX6_read 46 = .ok (.aload_n 0, 1) := by decide +kernel
theorem dX6_read_47 : decode cX6_read 47 = .ok (.iload_n 3, 1) := by decide +kernel
theorem dX6_read_48 : decode cX6_read 48 = .ok (.invokevirtual 84, 3) := by decide +kernel
theorem dX6_read_51 : decode cX6_read 51 = .ok (.ifCond .eq 14, 3) := by decide +kernel
theorem dX6_read_54 : decode cX6_read 54 = .ok (.goto 13, 3) := by decide +kernel
theorem dX6_read_57 : decode cX6_read 57 = .ok (.aload_n 0, 1) := by decide +kernel
theorem dX6_read_58 : decode cX6_read 58 = .ok (.iload_n 3, 1) := by decide +kernel
theorem dX6_read_59 : decode cX6_read 59 = .ok (.invokevirtual 87, 3) := by decide +kernel
theorem dX6_read_62 : decode cX6_read 62 = .ok (.ifCond .ne 5, 3) := by decide +kernel
theorem dX6_read_65 : decode cX6_read 65 = .ok (.iload_n 2, 1) := by decide +kernel
theorem dX6_read_66 : decode cX6_read 66 = .ok (.ireturn, 1) := by decide +kernel
theorem dX6_read_67 : decode cX6_read 67 = .ok (.iinc 2 1, 3) := by decide +kernel
theorem dX6_read_70 : decode cX6_read 70 = .ok (.goto (-51), 3) := by decide +kernel
theorem dX6_read_73 : decode cX6_read 73 = .ok (.aload_n 1, 1) := by decide +kernel
theorem dX6_read_74 : decode cX6_read 74 = .ok (.getfield 74, 3) := by decide +kernel
theorem dX6_read_77 : decode cX6_read 77 = .ok (.bipush 40, 2) := by decide +kernel
theorem dX6_read_79 : decode cX6_read 79 = .ok (.if_icmp .le 6, 3) := by decide +kernel
theorem dX6_read_82 : decode cX6_read 82 = .ok (.bipush 40, 2) := by decide +kernel
theorem dX6_read_84 : decode cX6_read 84 = .ok (.ireturn, 1) := by decide +kernel
theorem dX6_read_85 : decode cX6_read 85 = .ok (.aload_n 0, 1) := by decide +kernel
theorem dX6_read_86 : decode cX6_read 86 = .ok (.getfield 34, 3) := by decide +kernel
theorem dX6_read_89 : decode cX6_read 89 = .ok (.ifCond .ne 10, 3) := by decide +kernel
theorem dX6_read_92 : decode cX6_read 92 = .ok (.aload_n 0, 1) := by decide +kernel
theorem dX6_read_93 : decode cX6_read 93 = .ok (.getfield 28, 3) := by decide +kernel
theorem dX6_read_96 : decode cX6_read 96 = .ok (.ifCond .le 8, 3) := by decide +kernel
theorem dX6_read_99 : decode cX6_read 99 = .ok (.aload_n 1, 1) := by decide +kernel
theorem dX6_read_100 : decode cX6_read 100 = .ok (.getfield 74, 3) := by decide +kernel
theorem dX6_read_103 : decode cX6_read 103 = .ok (.ireturn, 1) := by decide +kernel
theorem dX6_read_104 : decode cX6_read 104 = .ok (.aload_n 0, 1) := by decide +kernel
theorem dX6_read_105 : decode cX6_read 105 = .ok (.iconst 1, 1) := by decide +kernel
theorem dX6_read_106 : decode cX6_read 106 = .ok (.invokevirtual 90, 3) := by decide +kernel
theorem dX6_read_109 : decode cX6_read 109 = .ok (.iconst (-1), 1) := by decide +kernel
theorem dX6_read_110 : decode cX6_read 110 = .ok (.ireturn, 1) := by decide +kernel
theorem dX6_beginReading_0 : decode cX6_beginReading 0 = .ok (.aload_n 0, 1) := by decide +kernel
theorem dX6_beginReading_1 : decode cX6_beginReading 1 = .ok (.iconst 0, 1) := by decide +kernel
theorem dX6_beginReading_2 : decode cX6_beginReading 2 = .ok (.putfield 18, 3) := by decide +kernel
theorem dX6_beginReading_5 : decode cX6_beginReading 5 = .ok (.aload_n 0, 1) := by decide +kernel
theorem dX6_beginReading_6 : decode cX6_beginReading 6 = .ok (.iconst 0, 1) := by decide +kernel
theorem dX6_beginReading_7 : decode cX6_beginReading 7 = .ok (.putfield 25, 3) := by decide +kernel
theorem dX6_beginReading_10 : decode cX6_beginReading 10 = .ok (.aload_n 0, 1) := by decide +kernel
theorem dX6_beginReading_11 : decode cX6_beginReading 11 = .ok (.iconst 0, 1) := by decide +kernel
theorem dX6_beginReading_12 : decode cX6_beginReading 12 = .ok (.putfield 28, 3) := by decide +kernel
theorem dX6_beginReading_15 : decode cX6_beginReading 15 = .ok (.aload_n 0, 1) := by decide +kernel
theorem dX6_beginReading_16 : decode cX6_beginReading 16 = .ok (.iconst 0, 1) := by decide +kernel
theorem dX6_beginReading_17 : decode cX6_beginReading 17 = .ok (.putfield 31, 3) := by decide +kernel
theorem dX6_beginReading_20 : decode cX6_beginReading 20 = .ok (.aload_n 0, 1) := by decide +kernel
theorem dX6_beginReading_21 : decode cX6_beginReading 21 = .ok (.iconst 1, 1) := by decide +kernel
theorem dX6_beginReading_22 : decode cX6_beginReading 22 = .ok (.putfield 34, 3) := by decide +kernel
theorem dX6_beginReading_25 : decode cX6_beginReading 25 = .ok (.aload_n 0, 1) := by decide +kernel
theorem dX6_beginReading_26 : decode cX6_beginReading 26 = .ok (.iconst 0, 1) := by decide +kernel
theorem dX6_beginReading_27 : decode cX6_beginReading 27 = .ok (.putfield 38, 3) := by decide +kernel
theorem dX6_beginReading_30 : decode cX6_beginReading 30 = .ok (.return_, 1) := by decide +kernel
theorem dX6_takesThing_0 : decode cX6_takesThing 0 = .ok (.iload_n 1, 1) := by decide +kernel
theorem dX6_takesThing_1 : decode cX6_takesThing 1 = .ok (.bipush 45, 2) := by decide +kernel
theorem dX6_takesThing_3 : decode cX6_takesThing 3 = .ok (.if_icmp .ne 12, 3) := by decide +kernel
theorem dX6_takesThing_6 : decode cX6_takesThing 6 = .ok (.aload_n 0, 1) := by decide +kernel
theorem dX6_takesThing_7 : decode cX6_takesThing 7 = .ok (.sipush 256, 3) := by decide +kernel
theorem dX6_takesThing_10 : decode cX6_takesThing 10 = .ok (.invokevirtual 93, 3) := by decide +kernel
theorem dX6_takesThing_13 : decode cX6_takesThing 13 = .ok (.iconst 1, 1) := by decide +kernel
theorem dX6_takesThing_14 : decode cX6_takesThing 14 = .ok (.ireturn, 1) := by decide +kernel
theorem dX6_takesThing_15 : decode cX6_takesThing 15 = .ok (.iload_n 1, 1) := by decide +kernel
theorem dX6_takesThing_16 : decode cX6_takesThing 16 = .ok (.bipush 40, 2) := by decide +kernel
theorem dX6_takesThing_18 : decode cX6_takesThing 18 = .ok (.if_icmp .ne 8, 3) := by decide +kernel
theorem dX6_takesThing_21 : decode cX6_takesThing 21 = .ok (.aload_n 0, 1) := by decide +kernel
theorem dX6_takesThing_22 : decode cX6_takesThing 22 = .ok (.invokevirtual 96, 3) := by decide +kernel
theorem dX6_takesThing_25 : decode cX6_takesThing 25 = .ok (.ireturn, 1) := by decide +kernel
theorem dX6_takesThing_26 : decode cX6_takesThing 26 = .ok (.iload_n 1, 1) := by decide +kernel
theorem dX6_takesThing_27 : decode cX6_takesThing 27 = .ok (.invokestatic 100, 3) := by decide +kernel
theorem dX6_takesThing_30 : decode cX6_takesThing 30 = .ok (.ifCond .eq 19, 3) := by decide +kernel
theorem dX6_takesThing_33 : decode cX6_takesThing 33 = .ok (.aload_n 0, 1) := by decide +kernel
theorem dX6_takesThing_34 : decode cX6_takesThing 34 = .ok (.iload_n 1, 1) := by decide +kernel
theorem dX6_takesThing_35 : decode cX6_takesThing 35 = .ok (.bipush 48, 2) := by decide +kernel
theorem dX6_takesThing_37 : decode cX6_takesThing 37 = .ok (.isub, 1) := by decide +kernel
theorem dX6_takesThing_38 : decode cX6_takesThing 38 = .ok (.invokevirtual 44, 3) := by decide +kernel
theorem dX6_takesThing_41 : decode cX6_takesThing 41 = .ok (.aload_n 0, 1) := by decide +kernel
theorem dX6_takesThing_42 : decode cX6_takesThing 42 = .ok (.iconst 1, 1) := by decide +kernel
theorem dX6_takesThing_43 : decode cX6_takesThing 43 = .ok (.putfield 38, 3) := by decide +kernel
theorem dX6_takesThing_46 : decode cX6_takesThing 46 = .ok (.goto 25, 3) := by decide +kernel
theorem dX6_takesThing_49 : decode cX6_takesThing 49 = .ok (.iload_n 1, 1) := by decide +kernel
theorem dX6_takesThing_50 : decode cX6_takesThing 50 = .ok (.invokestatic 57, 3) := by decide +kernel
theorem dX6_takesThing_53 : decode cX6_takesThing 53 = .ok (.ifCond .eq 16, 3) := by decide +kernel
theorem dX6_takesThing_56 : decode cX6_takesThing 56 = .ok (.aload_n 0, 1) := by decide +kernel
theorem dX6_takesThing_57 : decode cX6_takesThing 57 = .ok (.iload_n 1, 1) := by decide +kernel
theorem dX6_takesThing_58 : decode cX6_takesThing 58 = .ok (.invokevirtual 48, 3) := by decide +kernel
theorem dX6_takesThing_61 : decode cX6_takesThing 61 = .ok (.aload_n 0, 1) := by decide +kernel
theorem dX6_takesThing_62 : decode cX6_takesThing 62 = .ok (.iconst 0, 1) := by decide +kernel
theorem dX6_takesThing_63 : decode cX6_takesThing 63 = .ok (.putfield 38, 3) := by decide +kernel
theorem dX6_takesThing_66 : decode cX6_takesThing 66 = .ok (.goto 5, 3) := by decide +kernel
theorem dX6_takesThing_69 : decode cX6_takesThing 69 = .ok (.iconst 0, 1) := by decide +kernel
theorem dX6_takesThing_70 : decode cX6_takesThing 70 = .ok (.ireturn, 1) := by decide +kernel
theorem dX6_takesThing_71 : decode cX6_takesThing 71 = .ok (.aload_n 0, 1) := by decide +kernel
theorem dX6_takesThing_72 : decode cX6_takesThing 72 = .ok (.iconst 0, 1) := by decide +kernel
theorem dX6_takesThing_73 : decode cX6_takesThing 73 = .ok (.putfield 34, 3) := by decide +kernel
theorem dX6_takesThing_76 : decode cX6_takesThing 76 = .ok (.iconst 1, 1) := by decide +kernel
theorem dX6_takesThing_77 : decode cX6_takesThing 77 = .ok (.ireturn, 1) := by decide +kernel
theorem dX6_takesBehindThing_0 : decode cX6_takesBehindThing 0 = .ok (.iload_n 1, 1) := by decide +kernel
theorem dX6_takesBehindThing_1 : decode cX6_takesBehindThing 1 = .ok (.invokestatic 100, 3) := by decide +kernel
theorem dX6_takesBehindThing_4 : decode cX6_takesBehindThing 4 = .ok (.ifCond .eq 12, 3) := by decide +kernel
theorem dX6_takesBehindThing_7 : decode cX6_takesBehindThing 7 = .ok (.aload_n 0, 1) := by decide +kernel
theorem dX6_takesBehindThing_8 : decode cX6_takesBehindThing 8 = .ok (.iload_n 1, 1) := by decide +kernel
theorem dX6_takesBehindThing_9 : decode cX6_takesBehindThing 9 = .ok (.bipush 48, 2) := by decide +kernel
theorem dX6_takesBehindThing_11 : decode cX6_takesBehindThing 11 = .ok (.isub, 1) := by decide +kernel
theorem dX6_takesBehindThing_12 : decode cX6_takesBehindThing 12 = .ok (.invokevirtual 103, 3) := by decide +kernel
theorem dX6_takesBehindThing_15 : decode cX6_takesBehindThing 15 = .ok (.ireturn, 1) := by decide +kernel
theorem dX6_takesBehindThing_16 : decode cX6_takesBehindThing 16 = .ok (.iload_n 1, 1) := by decide +kernel
theorem dX6_takesBehindThing_17 : decode cX6_takesBehindThing 17 = .ok (.bipush 41, 2) := by decide +kernel
theorem dX6_takesBehindThing_19 : decode cX6_takesBehindThing 19 = .ok (.if_icmp .ne 8, 3) := by decide +kernel
theorem dX6_takesBehindThing_22 : decode cX6_takesBehindThing 22 = .ok (.aload_n 0, 1) := by decide +kernel
theorem dX6_takesBehindThing_23 : decode cX6_takesBehindThing 23 = .ok (.invokevirtual 106, 3) := by decide +kernel
theorem dX6_takesBehindThing_26 : decode cX6_takesBehindThing 26 = .ok (.ireturn, 1) := by decide +kernel
theorem dX6_takesBehindThing_27 : decode cX6_takesBehindThing 27 = .ok (.iload_n 1, 1) := by decide +kernel
theorem dX6_takesBehindThing_28 : decode cX6_takesBehindThing 28 = .ok (.invokestatic 109, 3) := by decide +kernel
theorem dX6_takesBehindThing_31 : decode cX6_takesBehindThing 31 = .ok (.istore_n 2, 1) := by decide +kernel
theorem dX6_takesBehindThing_32 : decode cX6_takesBehindThing 32 = .ok (.iload_n 2, 1) := by decide +kernel
theorem dX6_takesBehindThing_33 : decode cX6_takesBehindThing 33 = .ok (.iconst 1, 1) := by decide +kernel
theorem dX6_takesBehindThing_34 : decode cX6_takesBehindThing 34 = .ok (.if_icmp .lt 23, 3) := by decide +kernel
theorem dX6_takesBehindThing_37 : decode cX6_takesBehindThing 37 = .ok (.iload_n 2, 1) := by decide +kernel
theorem dX6_takesBehindThing_38 : decode cX6_takesBehindThing 38 = .ok (.iconst 1, 1) := by decide +kernel
theorem dX6_takesBehindThing_39 : decode cX6_takesBehindThing 39 = .ok (.if_icmp .ne 20, 3) := by decide +kernel
theorem dX6_takesBehindThing_42 : decode cX6_takesBehindThing 42 = .ok (.aload_n 0, 1) := by decide +kernel
theorem dX6_takesBehindThing_43 : decode cX6_takesBehindThing 43 = .ok (.getfield 31, 3) := by decide +kernel
theorem dX6_takesBehindThing_46 : decode cX6_takesBehindThing 46 = .ok (.aload_n 0, 1) := by decide +kernel
theorem dX6_takesBehindThing_47 : decode cX6_takesBehindThing 47 = .ok (.getfield 28, 3) := by decide +kernel
theorem dX6_takesBehindThing_50 : decode cX6_takesBehindThing 50 = .ok (.ishr, 1) := by decide +kernel
theorem dX6_takesBehindThing_51 : decode cX6_takesBehindThing 51 = .ok (.iconst 1, 1) := by decide +kernel
theorem dX6_takesBehindThing_52 : decode cX6_takesBehindThing 52 = .ok (.iand, 1) := by decide +kernel
theorem dX6_takesBehindThing_53 : decode cX6_takesBehindThing 53 = .ok (.iconst 1, 1) := by decide +kernel
theorem dX6_takesBehindThing_54 : decode cX6_takesBehindThing 54 = .ok (.if_icmp .ne 5, 3) := by decide +kernel
theorem dX6_takesBehindThing_57 : decode cX6_takesBehindThing 57 = .ok (.iconst 0, 1) := by decide +kernel
theorem dX6_takesBehindThing_58 : decode cX6_takesBehindThing 58 = .ok (.ireturn, 1) := by decide +kernel
theorem dX6_takesBehindThing_59 : decode cX6_takesBehindThing 59 = .ok (.iload_n 2, 1) := by decide +kernel
theorem dX6_takesBehindThing_60 : decode cX6_takesBehindThing 60 = .ok (.iconst 1, 1) := by decide +kernel
theorem dX6_takesBehindThing_61 : decode cX6_takesBehindThing 61 = .ok (.if_icmp .ne 18, 3) := by decide +kernel
theorem dX6_takesBehindThing_64 : decode cX6_takesBehindThing 64 = .ok (.aload_n 0, 1) := by decide +kernel
theorem dX6_takesBehindThing_65 : decode cX6_takesBehindThing 65 = .ok (.dup, 1) := by decide +kernel
theorem dX6_takesBehindThing_66 : decode cX6_takesBehindThing 66 = .ok (.getfield 31, 3) := by decide +kernel
theorem dX6_takesBehindThing_69 : decode cX6_takesBehindThing 69 = .ok (.iconst 1, 1) := by decide +kernel
theorem dX6_takesBehindThing_70 : decode cX6_takesBehindThing 70 = .ok (.aload_n 0, 1) := by decide +kernel
theorem dX6_takesBehindThing_71 : decode cX6_takesBehindThing 71 = .ok (.getfield 28, 3) := by decide +kernel
theorem dX6_takesBehindThing_74 : decode cX6_takesBehindThing 74 = .ok (.ishl, 1) := by decide +kernel
theorem dX6_takesBehindThing_75 : decode cX6_takesBehindThing 75 = .ok (.ior, 1) := by decide +kernel
theorem dX6_takesBehindThing_76 : decode cX6_takesBehindThing 76 = .ok (.putfield 31, 3) := by decide +kernel
theorem dX6_takesBehindThing_79 : decode cX6_takesBehindThing 79 = .ok (.aload_n 0, 1) := by decide +kernel
theorem dX6_takesBehindThing_80 : decode cX6_takesBehindThing 80 = .ok (.iload_n 2, 1) := by decide +kernel
theorem dX6_takesBehindThing_81 : decode cX6_takesBehindThing 81 = .ok (.invokevirtual 90, 3) := by decide +kernel
theorem dX6_takesBehindThing_84 : decode cX6_takesBehindThing 84 = .ok (.aload_n 0, 1) := by decide +kernel
theorem dX6_takesBehindThing_85 : decode cX6_takesBehindThing 85 = .ok (.iload_n 1, 1) := by decide +kernel
theorem dX6_takesBehindThing_86 : decode cX6_takesBehindThing 86 = .ok (.invokevirtual 93, 3) := by decide +kernel
theorem dX6_takesBehindThing_89 : decode cX6_takesBehindThing 89 = .ok (.aload_n 0, 1) := by decide +kernel
theorem dX6_takesBehindThing_90 : decode cX6_takesBehindThing 90 = .ok (.iconst 1, 1) := by decide +kernel
theorem dX6_takesBehindThing_91 : decode cX6_takesBehindThing 91 = .ok (.putfield 34, 3) := by decide +kernel
theorem dX6_takesBehindThing_94 : decode cX6_takesBehindThing 94 = .ok (.iconst 1, 1) := by decide +kernel
theorem dX6_takesBehindThing_95 : decode cX6_takesBehindThing 95 = .ok (.ireturn, 1) := by decide +kernel
theorem dX6_opens_0 : decode cX6_opens 0 = .ok (.aload_n 0, 1) := by decide +kernel
theorem dX6_opens_1 : decode cX6_opens 1 = .ok (.getfield 28, 3) := by decide +kernel
theorem dX6_opens_4 : decode cX6_opens 4 = .ok (.iconst 4, 1) := by decide +kernel
theorem dX6_opens_5 : decode cX6_opens 5 = .ok (.if_icmp .lt 5, 3) := by decide +kernel
theorem dX6_opens_8 : decode cX6_opens 8 = .ok (.iconst 0, 1) := by decide +kernel
theorem dX6_opens_9 : decode cX6_opens 9 = .ok (.ireturn, 1) := by decide +kernel
theorem dX6_opens_10 : decode cX6_opens 10 = .ok (.aload_n 0, 1) := by decide +kernel
theorem dX6_opens_11 : decode cX6_opens 11 = .ok (.dup, 1) := by decide +kernel
theorem dX6_opens_12 : decode cX6_opens 12 = .ok (.getfield 28, 3) := by decide +kernel
theorem dX6_opens_15 : decode cX6_opens 15 = .ok (.iconst 1, 1) := by decide +kernel
theorem dX6_opens_16 : decode cX6_opens 16 = .ok (.iadd, 1) := by decide +kernel
theorem dX6_opens_17 : decode cX6_opens 17 = .ok (.putfield 28, 3) := by decide +kernel
theorem dX6_opens_20 : decode cX6_opens 20 = .ok (.aload_n 0, 1) := by decide +kernel
theorem dX6_opens_21 : decode cX6_opens 21 = .ok (.dup, 1) := by decide +kernel
theorem dX6_opens_22 : decode cX6_opens 22 = .ok (.getfield 31, 3) := by decide +kernel
theorem dX6_opens_25 : decode cX6_opens 25 = .ok (.iconst 1, 1) := by decide +kernel
theorem dX6_opens_26 : decode cX6_opens 26 = .ok (.aload_n 0, 1) := by decide +kernel
theorem dX6_opens_27 : decode cX6_opens 27 = .ok (.getfield 28, 3) := by decide +kernel
theorem dX6_opens_30 : decode cX6_opens 30 = .ok (.ishl, 1) := by decide +kernel
theorem dX6_opens_31 : decode cX6_opens 31 = .ok (.iconst (-1), 1) := by decide +kernel
theorem dX6_opens_32 : decode cX6_opens 32 = .ok (.ixor, 1) := by decide +kernel
theorem dX6_opens_33 : decode cX6_opens 33 = .ok (.iand, 1) := by decide +kernel
theorem dX6_opens_34 : decode cX6_opens 34 = .ok (.putfield 31, 3) := by decide +kernel
theorem dX6_opens_37 : decode cX6_opens 37 = .ok (.aload_n 0, 1) := by decide +kernel
theorem dX6_opens_38 : decode cX6_opens 38 = .ok (.bipush 40, 2) := by decide +kernel
theorem dX6_opens_40 : decode cX6_opens 40 = .ok (.invokevirtual 93, 3) := by decide +kernel
theorem dX6_opens_43 : decode cX6_opens 43 = .ok (.iconst 1, 1) := by decide +kernel
theorem dX6_opens_44 : decode cX6_opens 44 = .ok (.ireturn, 1) := by decide +kernel
theorem dX6_closes_0 : decode cX6_closes 0 = .ok (.aload_n 0, 1) := by decide +kernel
theorem dX6_closes_1 : decode cX6_closes 1 = .ok (.getfield 28, 3) := by decide +kernel
theorem dX6_closes_4 : decode cX6_closes 4 = .ok (.iconst 1, 1) := by decide +kernel
theorem dX6_closes_5 : decode cX6_closes 5 = .ok (.if_icmp .ge 5, 3) := by decide +kernel
theorem dX6_closes_8 : decode cX6_closes 8 = .ok (.iconst 0, 1) := by decide +kernel
theorem dX6_closes_9 : decode cX6_closes 9 = .ok (.ireturn, 1) := by decide +kernel
theorem dX6_closes_10 : decode cX6_closes 10 = .ok (.aload_n 0, 1) := by decide +kernel
theorem dX6_closes_11 : decode cX6_closes 11 = .ok (.iconst 1, 1) := by decide +kernel
theorem dX6_closes_12 : decode cX6_closes 12 = .ok (.invokevirtual 90, 3) := by decide +kernel
theorem dX6_closes_15 : decode cX6_closes 15 = .ok (.aload_n 0, 1) := by decide +kernel
theorem dX6_closes_16 : decode cX6_closes 16 = .ok (.iconst 0, 1) := by decide +kernel
theorem dX6_closes_17 : decode cX6_closes 17 = .ok (.aload_n 0, 1) := by decide +kernel
theorem dX6_closes_18 : decode cX6_closes 18 = .ok (.getfield 25, 3) := by decide +kernel
theorem dX6_closes_21 : decode cX6_closes 21 = .ok (.iconst 1, 1) := by decide +kernel
theorem dX6_closes_22 : decode cX6_closes 22 = .ok (.isub, 1) := by decide +kernel
theorem dX6_closes_23 : decode cX6_closes 23 = .ok (.invokestatic 112, 3) := by decide +kernel
theorem dX6_closes_26 : decode cX6_closes 26 = .ok (.putfield 25, 3) := by decide +kernel
theorem dX6_closes_29 : decode cX6_closes 29 = .ok (.aload_n 0, 1) := by decide +kernel
theorem dX6_closes_30 : decode cX6_closes 30 = .ok (.dup, 1) := by decide +kernel
theorem dX6_closes_31 : decode cX6_closes 31 = .ok (.getfield 28, 3) := by decide +kernel
theorem dX6_closes_34 : decode cX6_closes 34 = .ok (.iconst 1, 1) := by decide +kernel
theorem dX6_closes_35 : decode cX6_closes 35 = .ok (.isub, 1) := by decide +kernel
theorem dX6_closes_36 : decode cX6_closes 36 = .ok (.putfield 28, 3) := by decide +kernel
theorem dX6_closes_39 : decode cX6_closes 39 = .ok (.aload_n 0, 1) := by decide +kernel
theorem dX6_closes_40 : decode cX6_closes 40 = .ok (.iconst 0, 1) := by decide +kernel
theorem dX6_closes_41 : decode cX6_closes 41 = .ok (.putfield 38, 3) := by decide +kernel
theorem dX6_closes_44 : decode cX6_closes 44 = .ok (.iconst 1, 1) := by decide +kernel
theorem dX6_closes_45 : decode cX6_closes 45 = .ok (.ireturn, 1) := by decide +kernel
theorem dX6_lengthensNumber_0 : decode cX6_lengthensNumber 0 = .ok (.aload_n 0, 1) := by decide +kernel
theorem dX6_lengthensNumber_1 : decode cX6_lengthensNumber 1 = .ok (.getfield 38, 3) := by decide +kernel
theorem dX6_lengthensNumber_4 : decode cX6_lengthensNumber 4 = .ok (.iconst 1, 1) := by decide +kernel
theorem dX6_lengthensNumber_5 : decode cX6_lengthensNumber 5 = .ok (.if_icmp .lt 28, 3) := by decide +kernel
theorem dX6_lengthensNumber_8 : decode cX6_lengthensNumber 8 = .ok (.aload_n 0, 1) := by decide +kernel
theorem dX6_lengthensNumber_9 : decode cX6_lengthensNumber 9 = .ok (.getfield 38, 3) := by decide +kernel
theorem dX6_lengthensNumber_12 : decode cX6_lengthensNumber 12 = .ok (.iconst 2, 1) := by decide +kernel
theorem dX6_lengthensNumber_13 : decode cX6_lengthensNumber 13 = .ok (.if_icmp .gt 20, 3) := by decide +kernel
theorem dX6_lengthensNumber_16 : decode cX6_lengthensNumber 16 = .ok (.aload_n 0, 1) := by decide +kernel
theorem dX6_lengthensNumber_17 : decode cX6_lengthensNumber 17 = .ok (.getfield 18, 3) := by decide +kernel
theorem dX6_lengthensNumber_20 : decode cX6_lengthensNumber 20 = .ok (.iconst 1, 1) := by decide +kernel
theorem dX6_lengthensNumber_21 : decode cX6_lengthensNumber 21 = .ok (.if_icmp .lt 12, 3) := by decide +kernel
theorem dX6_lengthensNumber_24 : decode cX6_lengthensNumber 24 = .ok (.aload_n 0, 1) := by decide +kernel
theorem dX6_lengthensNumber_25 : decode cX6_lengthensNumber 25 = .ok (.getfield 18, 3) := by decide +kernel
theorem dX6_lengthensNumber_28 : decode cX6_lengthensNumber 28 = .ok (.bipush 40, 2) := by decide +kernel
theorem dX6_lengthensNumber_30 : decode cX6_lengthensNumber 30 = .ok (.if_icmp .le 5, 3) := by decide +kernel
theorem dX6_lengthensNumber_33 : decode cX6_lengthensNumber 33 = .ok (.iconst 0, 1) := by decide +kernel
theorem dX6_lengthensNumber_34 : decode cX6_lengthensNumber 34 = .ok (.ireturn, 1) := by decide +kernel
theorem dX6_lengthensNumber_35 : decode cX6_lengthensNumber 35 = .ok (.aload_n 0, 1) := by decide +kernel
theorem dX6_lengthensNumber_36 : decode cX6_lengthensNumber 36 = .ok (.getfield 11, 3) := by decide +kernel
theorem dX6_lengthensNumber_39 : decode cX6_lengthensNumber 39 = .ok (.aload_n 0, 1) := by decide +kernel
theorem dX6_lengthensNumber_40 : decode cX6_lengthensNumber 40 = .ok (.getfield 18, 3) := by decide +kernel
theorem dX6_lengthensNumber_43 : decode cX6_lengthensNumber 43 = .ok (.iconst 1, 1) := by decide +kernel
theorem dX6_lengthensNumber_44 : decode cX6_lengthensNumber 44 = .ok (.isub, 1) := by decide +kernel
theorem dX6_lengthensNumber_45 : decode cX6_lengthensNumber 45 = .ok (.aload_n 0, 1) := by decide +kernel
theorem dX6_lengthensNumber_46 : decode cX6_lengthensNumber 46 = .ok (.getfield 11, 3) := by decide +kernel
theorem dX6_lengthensNumber_49 : decode cX6_lengthensNumber 49 = .ok (.aload_n 0, 1) := by decide +kernel
theorem dX6_lengthensNumber_50 : decode cX6_lengthensNumber 50 = .ok (.getfield 18, 3) := by decide +kernel
theorem dX6_lengthensNumber_53 : decode cX6_lengthensNumber 53 = .ok (.iconst 1, 1) := by decide +kernel
theorem dX6_lengthensNumber_54 : decode cX6_lengthensNumber 54 = .ok (.isub, 1) := by decide +kernel
theorem dX6_lengthensNumber_55 : decode cX6_lengthensNumber 55 = .ok (.iaload, 1) := by decide +kernel
theorem dX6_lengthensNumber_56 : decode cX6_lengthensNumber 56 = .ok (.bipush 10, 2) := by decide +kernel
theorem dX6_lengthensNumber_58 : decode cX6_lengthensNumber 58 = .ok (.imul, 1) := by decide +kernel
theorem dX6_lengthensNumber_59 : decode cX6_lengthensNumber 59 = .ok (.iload_n 1, 1) := by decide +kernel
theorem dX6_lengthensNumber_60 : decode cX6_lengthensNumber 60 = .ok (.iadd, 1) := by decide +kernel
theorem dX6_lengthensNumber_61 : decode cX6_lengthensNumber 61 = .ok (.iastore, 1) := by decide +kernel
theorem dX6_lengthensNumber_62 : decode cX6_lengthensNumber 62 = .ok (.aload_n 0, 1) := by decide +kernel
theorem dX6_lengthensNumber_63 : decode cX6_lengthensNumber 63 = .ok (.dup, 1) := by decide +kernel
theorem dX6_lengthensNumber_64 : decode cX6_lengthensNumber 64 = .ok (.getfield 38, 3) := by decide +kernel
theorem dX6_lengthensNumber_67 : decode cX6_lengthensNumber 67 = .ok (.iconst 1, 1) := by decide +kernel
theorem dX6_lengthensNumber_68 : decode cX6_lengthensNumber 68 = .ok (.iadd, 1) := by decide +kernel
theorem dX6_lengthensNumber_69 : decode cX6_lengthensNumber 69 = .ok (.putfield 38, 3) := by decide +kernel
theorem dX6_lengthensNumber_72 : decode cX6_lengthensNumber 72 = .ok (.iconst 1, 1) := by decide +kernel
theorem dX6_lengthensNumber_73 : decode cX6_lengthensNumber 73 = .ok (.ireturn, 1) := by decide +kernel
theorem dX6_addNumber_0 : decode cX6_addNumber 0 = .ok (.aload_n 0, 1) := by decide +kernel
theorem dX6_addNumber_1 : decode cX6_addNumber 1 = .ok (.getfield 18, 3) := by decide +kernel
theorem dX6_addNumber_4 : decode cX6_addNumber 4 = .ok (.ifCond .lt 32, 3) := by decide +kernel
theorem dX6_addNumber_7 : decode cX6_addNumber 7 = .ok (.aload_n 0, 1) := by decide +kernel
theorem dX6_addNumber_8 : decode cX6_addNumber 8 = .ok (.getfield 18, 3) := by decide +kernel
theorem dX6_addNumber_11 : decode cX6_addNumber 11 = .ok (.bipush 40, 2) := by decide +kernel
theorem dX6_addNumber_13 : decode cX6_addNumber 13 = .ok (.if_icmp .ge 23, 3) := by decide +kernel
theorem dX6_addNumber_16 : decode cX6_addNumber 16 = .ok (.aload_n 0, 1) := by decide +kernel
theorem dX6_addNumber_17 : decode cX6_addNumber 17 = .ok (.getfield 11, 3) := by decide +kernel
theorem dX6_addNumber_20 : decode cX6_addNumber 20 = .ok (.aload_n 0, 1) := by decide +kernel
theorem dX6_addNumber_21 : decode cX6_addNumber 21 = .ok (.getfield 18, 3) := by decide +kernel
theorem dX6_addNumber_24 : decode cX6_addNumber 24 = .ok (.iload_n 1, 1) := by decide +kernel
theorem dX6_addNumber_25 : decode cX6_addNumber 25 = .ok (.iastore, 1) := by decide +kernel
theorem dX6_addNumber_26 : decode cX6_addNumber 26 = .ok (.aload_n 0, 1) := by decide +kernel
theorem dX6_addNumber_27 : decode cX6_addNumber 27 = .ok (.dup, 1) := by decide +kernel
theorem dX6_addNumber_28 : decode cX6_addNumber 28 = .ok (.getfield 18, 3) := by decide +kernel
theorem dX6_addNumber_31 : decode cX6_addNumber 31 = .ok (.iconst 1, 1) := by decide +kernel
theorem dX6_addNumber_32 : decode cX6_addNumber 32 = .ok (.iadd, 1) := by decide +kernel
theorem dX6_addNumber_33 : decode cX6_addNumber 33 = .ok (.putfield 18, 3) := by decide +kernel
theorem dX6_addNumber_36 : decode cX6_addNumber 36 = .ok (.return_, 1) := by decide +kernel
theorem dX6_addSign_0 : decode cX6_addSign 0 = .ok (.aload_n 0, 1) := by decide +kernel
theorem dX6_addSign_1 : decode cX6_addSign 1 = .ok (.sipush 1000, 3) := by decide +kernel
theorem dX6_addSign_4 : decode cX6_addSign 4 = .ok (.iload_n 1, 1) := by decide +kernel
theorem dX6_addSign_5 : decode cX6_addSign 5 = .ok (.iadd, 1) := by decide +kernel
theorem dX6_addSign_6 : decode cX6_addSign 6 = .ok (.invokevirtual 44, 3) := by decide +kernel
theorem dX6_addSign_9 : decode cX6_addSign 9 = .ok (.return_, 1) := by decide +kernel
theorem dX6_hold_0 : decode cX6_hold 0 = .ok (.aload_n 0, 1) := by decide +kernel
theorem dX6_hold_1 : decode cX6_hold 1 = .ok (.getfield 25, 3) := by decide +kernel
theorem dX6_hold_4 : decode cX6_hold 4 = .ok (.ifCond .lt 32, 3) := by decide +kernel
theorem dX6_hold_7 : decode cX6_hold 7 = .ok (.aload_n 0, 1) := by decide +kernel
theorem dX6_hold_8 : decode cX6_hold 8 = .ok (.getfield 25, 3) := by decide +kernel
theorem dX6_hold_11 : decode cX6_hold 11 = .ok (.bipush 40, 2) := by decide +kernel
theorem dX6_hold_13 : decode cX6_hold 13 = .ok (.if_icmp .ge 23, 3) := by decide +kernel
theorem dX6_hold_16 : decode cX6_hold 16 = .ok (.aload_n 0, 1) := by decide +kernel
theorem dX6_hold_17 : decode cX6_hold 17 = .ok (.getfield 22, 3) := by decide +kernel
theorem dX6_hold_20 : decode cX6_hold 20 = .ok (.aload_n 0, 1) := by decide +kernel
theorem dX6_hold_21 : decode cX6_hold 21 = .ok (.getfield 25, 3) := by decide +kernel
theorem dX6_hold_24 : decode cX6_hold 24 = .ok (.iload_n 1, 1) := by decide +kernel
theorem dX6_hold_25 : decode cX6_hold 25 = .ok (.iastore, 1) := by decide +kernel
theorem dX6_hold_26 : decode cX6_hold 26 = .ok (.aload_n 0, 1) := by decide +kernel
theorem dX6_hold_27 : decode cX6_hold 27 = .ok (.dup, 1) := by decide +kernel
theorem dX6_hold_28 : decode cX6_hold 28 = .ok (.getfield 25, 3) := by decide +kernel
theorem dX6_hold_31 : decode cX6_hold 31 = .ok (.iconst 1, 1) := by decide +kernel
theorem dX6_hold_32 : decode cX6_hold 32 = .ok (.iadd, 1) := by decide +kernel
theorem dX6_hold_33 : decode cX6_hold 33 = .ok (.putfield 25, 3) := by decide +kernel
theorem dX6_hold_36 : decode cX6_hold 36 = .ok (.return_, 1) := by decide +kernel
theorem dX6_release_0 : decode cX6_release 0 = .ok (.aload_n 0, 1) := by decide +kernel
theorem dX6_release_1 : decode cX6_release 1 = .ok (.getfield 25, 3) := by decide +kernel
theorem dX6_release_4 : decode cX6_release 4 = .ok (.iconst 1, 1) := by decide +kernel
theorem dX6_release_5 : decode cX6_release 5 = .ok (.isub, 1) := by decide +kernel
theorem dX6_release_6 : decode cX6_release 6 = .ok (.istore_n 2, 1) := by decide +kernel
theorem dX6_release_7 : decode cX6_release 7 = .ok (.iload_n 2, 1) := by decide +kernel
theorem dX6_release_8 : decode cX6_release 8 = .ok (.ifCond .lt 44, 3) := by decide +kernel
theorem dX6_release_11 : decode cX6_release 11 = .ok (.iload_n 2, 1) := by decide +kernel
theorem dX6_release_12 : decode cX6_release 12 = .ok (.bipush 40, 2) := by decide +kernel
theorem dX6_release_14 : decode cX6_release 14 = .ok (.if_icmp .ge 38, 3) := by decide +kernel
theorem dX6_release_17 : decode cX6_release 17 = .ok (.aload_n 0, 1) := by decide +kernel
theorem dX6_release_18 : decode cX6_release 18 = .ok (.getfield 22, 3) := by decide +kernel
theorem dX6_release_21 : decode cX6_release 21 = .ok (.iload_n 2, 1) := by decide +kernel
theorem dX6_release_22 : decode cX6_release 22 = .ok (.iaload, 1) := by decide +kernel
theorem dX6_release_23 : decode cX6_release 23 = .ok (.invokestatic 109, 3) := by decide +kernel
theorem dX6_release_26 : decode cX6_release 26 = .ok (.iload_n 1, 1) := by decide +kernel
theorem dX6_release_27 : decode cX6_release 27 = .ok (.if_icmp .ge 4, 3) := by decide +kernel
theorem dX6_release_30 : decode cX6_release 30 = .ok (.return_, 1) := by decide +kernel
theorem dX6_release_31 : decode cX6_release 31 = .ok (.aload_n 0, 1) := by decide +kernel
theorem dX6_release_32 : decode cX6_release 32 = .ok (.aload_n 0, 1) := by decide +kernel
theorem dX6_release_33 : decode cX6_release 33 = .ok (.getfield 22, 3) := by decide +kernel
theorem dX6_release_36 : decode cX6_release 36 = .ok (.iload_n 2, 1) := by decide +kernel
theorem dX6_release_37 : decode cX6_release 37 = .ok (.iaload, 1) := by decide +kernel
theorem dX6_release_38 : decode cX6_release 38 = .ok (.invokevirtual 48, 3) := by decide +kernel
theorem dX6_release_41 : decode cX6_release 41 = .ok (.aload_n 0, 1) := by decide +kernel
theorem dX6_release_42 : decode cX6_release 42 = .ok (.iload_n 2, 1) := by decide +kernel
theorem dX6_release_43 : decode cX6_release 43 = .ok (.putfield 25, 3) := by decide +kernel
theorem dX6_release_46 : decode cX6_release 46 = .ok (.iinc 2 (-1), 3) := by decide +kernel
theorem dX6_release_49 : decode cX6_release 49 = .ok (.goto (-42), 3) := by decide +kernel
theorem dX6_release_52 : decode cX6_release 52 = .ok (.return_, 1) := by decide +kernel
theorem dX6_strengthOf_0 : decode cX6_strengthOf 0 = .ok (.iload_n 0, 1) := by decide +kernel
theorem dX6_strengthOf_1 : decode cX6_strengthOf 1 = .ok (.lookupswitch 83 #[(42, 79), (43, 77), (45, 77), (47, 79), (60, 75), (61, 75), (62, 75), (256, 81)], 75) := by decide +kernel
theorem dX6_strengthOf_76 : decode cX6_strengthOf 76 = .ok (.iconst 1, 1) := by decide +kernel
theorem dX6_strengthOf_77 : decode cX6_strengthOf 77 = .ok (.ireturn, 1) := by decide +kernel
theorem dX6_strengthOf_78 : decode cX6_strengthOf 78 = .ok (.iconst 2, 1) := by decide +kernel
theorem dX6_strengthOf_79 : decode cX6_strengthOf 79 = .ok (.ireturn, 1) := by decide +kernel
theorem dX6_strengthOf_80 : decode cX6_strengthOf 80 = .ok (.iconst 3, 1) := by decide +kernel
theorem dX6_strengthOf_81 : decode cX6_strengthOf 81 = .ok (.ireturn, 1) := by decide +kernel
theorem dX6_strengthOf_82 : decode cX6_strengthOf 82 = .ok (.iconst 4, 1) := by decide +kernel
theorem dX6_strengthOf_83 : decode cX6_strengthOf 83 = .ok (.ireturn, 1) := by decide +kernel
theorem dX6_strengthOf_84 : decode cX6_strengthOf 84 = .ok (.iconst 0, 1) := by decide +kernel
theorem dX6_strengthOf_85 : decode cX6_strengthOf 85 = .ok (.ireturn, 1) := by decide +kernel
theorem dX6_isLetter_0 : decode cX6_isLetter 0 = .ok (.iload_n 0, 1) := by decide +kernel
theorem dX6_isLetter_1 : decode cX6_isLetter 1 = .ok (.bipush 112, 2) := by decide +kernel
theorem dX6_isLetter_3 : decode cX6_isLetter 3 = .ok (.if_icmp .eq 39, 3) := by decide +kernel
theorem dX6_isLetter_6 : decode cX6_isLetter 6 = .ok (.iload_n 0, 1) := by decide +kernel
theorem dX6_isLetter_7 : decode cX6_isLetter 7 = .ok (.bipush 104, 2) := by decide +kernel
theorem dX6_isLetter_9 : decode cX6_isLetter 9 = .ok (.if_icmp .eq 33, 3) := by decide +kernel
theorem dX6_isLetter_12 : decode cX6_isLetter 12 = .ok (.iload_n 0, 1) := by decide +kernel
theorem dX6_isLetter_13 : decode cX6_isLetter 13 = .ok (.bipush 117, 2) := by decide +kernel
theorem dX6_isLetter_15 : decode cX6_isLetter 15 = .ok (.if_icmp .eq 27, 3) := by decide +kernel
theorem dX6_isLetter_18 : decode cX6_isLetter 18 = .ok (.iload_n 0, 1) := by decide +kernel
theorem dX6_isLetter_19 : decode cX6_isLetter 19 = .ok (.bipush 111, 2) := by decide +kernel
theorem dX6_isLetter_21 : decode cX6_isLetter 21 = .ok (.if_icmp .eq 21, 3) := by decide +kernel
theorem dX6_isLetter_24 : decode cX6_isLetter 24 = .ok (.iload_n 0, 1) := by decide +kernel
theorem dX6_isLetter_25 : decode cX6_isLetter 25 = .ok (.bipush 107, 2) := by decide +kernel
theorem dX6_isLetter_27 : decode cX6_isLetter 27 = .ok (.if_icmp .eq 15, 3) := by decide +kernel
theorem dX6_isLetter_30 : decode cX6_isLetter 30 = .ok (.iload_n 0, 1) := by decide +kernel
theorem dX6_isLetter_31 : decode cX6_isLetter 31 = .ok (.bipush 98, 2) := by decide +kernel
theorem dX6_isLetter_33 : decode cX6_isLetter 33 = .ok (.if_icmp .eq 9, 3) := by decide +kernel
theorem dX6_isLetter_36 : decode cX6_isLetter 36 = .ok (.iload_n 0, 1) := by decide +kernel
theorem dX6_isLetter_37 : decode cX6_isLetter 37 = .ok (.bipush 110, 2) := by decide +kernel
theorem dX6_isLetter_39 : decode cX6_isLetter 39 = .ok (.if_icmp .ne 7, 3) := by decide +kernel
theorem dX6_isLetter_42 : decode cX6_isLetter 42 = .ok (.iconst 1, 1) := by decide +kernel
theorem dX6_isLetter_43 : decode cX6_isLetter 43 = .ok (.goto 4, 3) := by decide +kernel
theorem dX6_isLetter_46 : decode cX6_isLetter 46 = .ok (.iconst 0, 1) := by decide +kernel
theorem dX6_isLetter_47 : decode cX6_isLetter 47 = .ok (.ireturn, 1) := by decide +kernel
theorem dX7_init_0 : decode cX7_init 0 = .ok (.aload_n 0, 1) := by decide +kernel
theorem dX7_init_1 : decode cX7_init 1 = .ok (.invokespecial 3, 3) := by decide +kernel
theorem dX7_init_4 : decode cX7_init 4 = .ok (.aload_n 0, 1) := by decide +kernel
theorem dX7_init_5 : decode cX7_init 5 = .ok (.bipush 12, 2) := by decide +kernel
theorem dX7_init_7 : decode cX7_init 7 = .ok (.newarray .int, 2) := by decide +kernel
theorem dX7_init_9 : decode cX7_init 9 = .ok (.putfield 11, 3) := by decide +kernel
theorem dX7_init_12 : decode cX7_init 12 = .ok (.aload_n 0, 1) := by decide +kernel
theorem dX7_init_13 : decode cX7_init 13 = .ok (.iconst 0, 1) := by decide +kernel
theorem dX7_init_14 : decode cX7_init 14 = .ok (.putfield 15, 3) := by decide +kernel
theorem dX7_init_17 : decode cX7_init 17 = .ok (.aload_n 0, 1) := by decide +kernel
theorem dX7_init_18 : decode cX7_init 18 = .ok (.aload_n 1, 1) := by decide +kernel
theorem dX7_init_19 : decode cX7_init 19 = .ok (.putfield 19, 3) := by decide +kernel
theorem dX7_init_22 : decode cX7_init 22 = .ok (.aload_n 0, 1) := by decide +kernel
theorem dX7_init_23 : decode cX7_init 23 = .ok (.aload_n 2, 1) := by decide +kernel
theorem dX7_init_24 : decode cX7_init 24 = .ok (.putfield 23, 3) := by decide +kernel
theorem dX7_init_27 : decode cX7_init 27 = .ok (.return_, 1) := by decide +kernel
theorem dX7_hear_0 : decode cX7_hear 0 = .ok (.iload_n 1, 1) := by decide +kernel
theorem dX7_hear_1 : decode cX7_hear 1 = .ok (.iconst 0, 1) := by decide +kernel
theorem dX7_hear_2 : decode cX7_hear 2 = .ok (.iconst 4, 1) := by decide +kernel
theorem dX7_hear_3 : decode cX7_hear 3 = .ok (.invokestatic 27, 3) := by decide +kernel
theorem dX7_hear_6 : decode cX7_hear 6 = .ok (.ifCond .ne 28, 3) := by decide +kernel
theorem dX7_hear_9 : decode cX7_hear 9 = .ok (.iload_n 2, 1) := by decide +kernel
theorem dX7_hear_10 : decode cX7_hear 10 = .ok (.iconst 0, 1) := by decide +kernel
theorem dX7_hear_11 : decode cX7_hear 11 = .ok (.iload_n 1, 1) := by decide +kernel
theorem dX7_hear_12 : decode cX7_hear 12 = .ok (.invokestatic 31, 3) := by decide +kernel
theorem dX7_hear_15 : decode cX7_hear 15 = .ok (.invokestatic 27, 3) := by decide +kernel
theorem dX7_hear_18 : decode cX7_hear 18 = .ok (.ifCond .ne 16, 3) := by decide +kernel
theorem dX7_hear_21 : decode cX7_hear 21 = .ok (.aload_n 0, 1) := by decide +kernel
theorem dX7_hear_22 : decode cX7_hear 22 = .ok (.getfield 15, 3) := by decide +kernel
theorem dX7_hear_25 : decode cX7_hear 25 = .ok (.iconst 0, 1) := by decide +kernel
theorem dX7_hear_26 : decode cX7_hear 26 = .ok (.bipush 11, 2) := by decide +kernel
theorem dX7_hear_28 : decode cX7_hear 28 = .ok (.invokestatic 27, 3) := by decide +kernel
theorem dX7_hear_31 : decode cX7_hear 31 = .ok (.ifCond .eq 5, 3) := by decide +kernel
theorem dX7_hear_34 : decode cX7_hear 34 = .ok (.iconst (-1), 1) := by decide +kernel
theorem dX7_hear_35 : decode cX7_hear 35 = .ok (.ireturn, 1) := by decide +kernel
theorem dX7_hear_36 : decode cX7_hear 36 = .ok (.aload_n 0, 1) := by decide +kernel
theorem dX7_hear_37 : decode cX7_hear 37 = .ok (.getfield 11, 3) := by decide +kernel
theorem dX7_hear_40 : decode cX7_hear 40 = .ok (.aload_n 0, 1) := by decide +kernel
theorem dX7_hear_41 : decode cX7_hear 41 = .ok (.getfield 15, 3) := by decide +kernel
theorem dX7_hear_44 : decode cX7_hear 44 = .ok (.bipush 100, 2) := by decide +kernel
theorem dX7_hear_46 : decode cX7_hear 46 = .ok (.iload_n 1, 1) := by decide +kernel
theorem dX7_hear_47 : decode cX7_hear 47 = .ok (.imul, 1) := by decide +kernel
theorem dX7_hear_48 : decode cX7_hear 48 = .ok (.iload_n 2, 1) := by decide +kernel
theorem dX7_hear_49 : decode cX7_hear 49 = .ok (.iadd, 1) := by decide +kernel
theorem dX7_hear_50 : decode cX7_hear 50 = .ok (.iastore, 1) := by decide +kernel
theorem dX7_hear_51 : decode cX7_hear 51 = .ok (.aload_n 0, 1) := by decide +kernel
theorem dX7_hear_52 : decode cX7_hear 52 = .ok (.dup, 1) := by decide +kernel
theorem dX7_hear_53 : decode cX7_hear 53 = .ok (.getfield 15, 3) := by decide +kernel
theorem dX7_hear_56 : decode cX7_hear 56 = .ok (.iconst 1, 1) := by decide +kernel
theorem dX7_hear_57 : decode cX7_hear 57 = .ok (.iadd, 1) := by decide +kernel
theorem dX7_hear_58 : decode cX7_hear 58 = .ok (.putfield 15, 3) := by decide +kernel
theorem dX7_hear_61 : decode cX7_hear 61 = .ok (.aload_n 0, 1) := by decide +kernel
theorem dX7_hear_62 : decode cX7_hear 62 = .ok (.getfield 15, 3) := by decide +kernel
theorem dX7_hear_65 : decode cX7_hear 65 = .ok (.ireturn, 1) := by decide +kernel
theorem dX7_drop_0 : decode cX7_drop 0 = .ok (.aload_n 0, 1) := by decide +kernel
theorem dX7_drop_1 : decode cX7_drop 1 = .ok (.getfield 15, 3) := by decide +kernel
theorem dX7_drop_4 : decode cX7_drop 4 = .ok (.istore_n 1, 1) := by decide +kernel
theorem dX7_drop_5 : decode cX7_drop 5 = .ok (.aload_n 0, 1) := by decide +kernel
theorem dX7_drop_6 : decode cX7_drop 6 = .ok (.iconst 0, 1) := by decide +kernel
theorem dX7_drop_7 : decode cX7_drop 7 = .ok (.putfield 15, 3) := by decide +kernel
theorem dX7_drop_10 : decode cX7_drop 10 = .ok (.iload_n 1, 1) := by decide +kernel
theorem dX7_drop_11 : decode cX7_drop 11 = .ok (.ireturn, 1) := by decide +kernel
theorem dX7_fitting_0 : decode cX7_fitting 0 = .ok (.aload_n 0, 1) := by decide +kernel
theorem dX7_fitting_1 : decode cX7_fitting 1 = .ok (.invokevirtual 35, 3) := by decide +kernel
theorem dX7_fitting_4 : decode cX7_fitting 4 = .ok (.istore_n 1, 1) := by decide +kernel
theorem dX7_fitting_5 : decode cX7_fitting 5 = .ok (.aload_n 0, 1) := by decide +kernel
theorem dX7_fitting_6 : decode cX7_fitting 6 = .ok (.getfield 23, 3) := by decide +kernel
theorem dX7_fitting_9 : decode cX7_fitting 9 = .ok (.iload_n 1, 1) := by decide +kernel
theorem dX7_fitting_10 : decode cX7_fitting 10 = .ok (.invokestatic 39, 3) := by decide +kernel
theorem dX7_fitting_13 : decode cX7_fitting 13 = .ok (.i2l, 1) := by decide +kernel
theorem dX7_fitting_14 : decode cX7_fitting 14 = .ok (.invokevirtual 44, 3) := by decide +kernel
theorem dX7_fitting_17 : decode cX7_fitting 17 = .ok (.iload_n 1, 1) := by decide +kernel
theorem dX7_fitting_18 : decode cX7_fitting 18 = .ok (.ireturn, 1) := by decide +kernel
theorem dX7_bestQuestion_0 : decode cX7_bestQuestion 0 = .ok (.aload_n 0, 1) := by decide +kernel
theorem dX7_bestQuestion_1 : decode cX7_bestQuestion 1 = .ok (.invokevirtual 35, 3) := by decide +kernel
theorem dX7_bestQuestion_4 : decode cX7_bestQuestion 4 = .ok (.istore_n 1, 1) := by decide +kernel
theorem dX7_bestQuestion_5 : decode cX7_bestQuestion 5 = .ok (.iload_n 1, 1) := by decide +kernel
theorem dX7_bestQuestion_6 : decode cX7_bestQuestion 6 = .ok (.ifCond .ne 6, 3) := by decide +kernel
theorem dX7_bestQuestion_9 : decode cX7_bestQuestion 9 = .ok (.bipush (-2), 2) := by decide +kernel
theorem dX7_bestQuestion_11 : decode cX7_bestQuestion 11 = .ok (.ireturn, 1) := by decide +kernel
theorem dX7_bestQuestion_12 : decode cX7_bestQuestion 12 = .ok (.iload_n 1, 1) := by decide +kernel
theorem dX7_bestQuestion_13 : decode cX7_bestQuestion 13 = .ok (.invokestatic 39, 3) := by decide +kernel
theorem dX7_bestQuestion_16 : decode cX7_bestQuestion 16 = .ok (.istore_n 2, 1) := by decide +kernel
theorem dX7_bestQuestion_17 : decode cX7_bestQuestion 17 = .ok (.bipush (-2), 2) := by decide +kernel
theorem dX7_bestQuestion_19 : decode cX7_bestQuestion 19 = .ok (.istore_n 3, 1) := by decide +kernel
theorem dX7_bestQuestion_20 : decode cX7_bestQuestion 20 = .ok (.iload_n 2, 1) := by decide +kernel
theorem dX7_bestQuestion_21 : decode cX7_bestQuestion 21 = .ok (.iconst 1, 1) := by decide +kernel
theorem dX7_bestQuestion_22 : decode cX7_bestQuestion 22 = .ok (.iadd, 1) := by decide +kernel
theorem dX7_bestQuestion_23 : decode cX7_bestQuestion 23 = .ok (.istore 4, 2) := by decide +kernel
theorem dX7_bestQuestion_25 : decode cX7_bestQuestion 25 = .ok (.iconst 0, 1) := by decide +kernel
theorem dX7_bestQuestion_26 : decode cX7_bestQuestion 26 = .ok (.istore 5, 2) := by decide +kernel
theorem dX7_bestQuestion_28 : decode cX7_bestQuestion 28 = .ok (.iload 5, 2) := by decide +kernel
theorem dX7_bestQuestion_30 : decode cX7_bestQuestion 30 = .ok (.iconst 5, 1) := by decide +kernel
theorem dX7_bestQuestion_31 : decode cX7_bestQuestion 31 = .ok (.if_icmp .ge 76, 3) := by decide +kernel
theorem dX7_bestQuestion_34 : decode cX7_bestQuestion 34 = .ok (.iconst 0, 1) := by decide +kernel
theorem dX7_bestQuestion_35 : decode cX7_bestQuestion 35 = .ok (.istore 6, 2) := by decide +kernel
theorem dX7_bestQuestion_37 : decode cX7_bestQuestion 37 = .ok (.iload 5, 2) := by decide +kernel
theorem dX7_bestQuestion_39 : decode cX7_bestQuestion 39 = .ok (.iconst 1, 1) := by decide +kernel
theorem dX7_bestQuestion_40 : decode cX7_bestQuestion 40 = .ok (.if_icmp .eq 61, 3) := by decide +kernel
theorem dX7_bestQuestion_43 : decode cX7_bestQuestion 43 = .ok (.iload 6, 2) := by decide +kernel
theorem dX7_bestQuestion_45 : decode cX7_bestQuestion 45 = .ok (.iload 5, 2) := by decide +kernel
theorem dX7_bestQuestion_47 : decode cX7_bestQuestion 47 = .ok (.invokestatic 31, 3) := by decide +kernel
theorem dX7_bestQuestion_50 : decode cX7_bestQuestion 50 = .ok (.if_icmp .gt 51, 3) := by decide +kernel
theorem dX7_bestQuestion_53 : decode cX7_bestQuestion 53 = .ok (.aload_n 0, 1) := by decide +kernel
theorem dX7_bestQuestion_54 : decode cX7_bestQuestion 54 = .ok (.iload_n 1, 1) := by decide +kernel
theorem dX7_bestQuestion_55 : decode cX7_bestQuestion 55 = .ok (.iload 5, 2) := by decide +kernel
theorem dX7_bestQuestion_57 : decode cX7_bestQuestion 57 = .ok (.iload 6, 2) := by decide +kernel
theorem dX7_bestQuestion_59 : decode cX7_bestQuestion 59 = .ok (.invokevirtual 50, 3) := by decide +kernel
theorem dX7_bestQuestion_62 : decode cX7_bestQuestion 62 = .ok (.istore 7, 2) := by decide +kernel
theorem dX7_bestQuestion_64 : decode cX7_bestQuestion 64 = .ok (.iload 7, 2) := by decide +kernel
theorem dX7_bestQuestion_66 : decode cX7_bestQuestion 66 = .ok (.iload_n 2, 1) := by decide +kernel
theorem dX7_bestQuestion_67 : decode cX7_bestQuestion 67 = .ok (.iload 7, 2) := by decide +kernel
theorem dX7_bestQuestion_69 : decode cX7_bestQuestion 69 = .ok (.isub, 1) := by decide +kernel
theorem dX7_bestQuestion_70 : decode cX7_bestQuestion 70 = .ok (.invokestatic 54, 3) := by decide +kernel
theorem dX7_bestQuestion_73 : decode cX7_bestQuestion 73 = .ok (.istore 8, 2) := by decide +kernel
theorem dX7_bestQuestion_75 : decode cX7_bestQuestion 75 = .ok (.iload 8, 2) := by decide +kernel
theorem dX7_bestQuestion_77 : decode cX7_bestQuestion 77 = .ok (.iload 4, 2) := by decide +kernel
theorem dX7_bestQuestion_79 : decode cX7_bestQuestion 79 = .ok (.if_icmp .ge 16, 3) := by decide +kernel
theorem dX7_bestQuestion_82 : decode cX7_bestQuestion 82 = .ok (.iload 8, 2) := by decide +kernel
theorem dX7_bestQuestion_84 : decode cX7_bestQuestion 84 = .ok (.istore 4, 2) := by decide +kernel
theorem dX7_bestQuestion_86 : decode cX7_bestQuestion 86 = .ok (.bipush 10, 2) := by decide +kernel
theorem dX7_bestQuestion_88 : decode cX7_bestQuestion 88 = .ok (.iload 5, 2) := by decide +kernel
theorem dX7_bestQuestion_90 : decode cX7_bestQuestion 90 = .ok (.imul, 1) := by decide +kernel
theorem dX7_bestQuestion_91 : decode cX7_bestQuestion 91 = .ok (.iload 6, 2) := by decide +kernel
theorem dX7_bestQuestion_93 : decode cX7_bestQuestion 93 = .ok (.iadd, 1) := by decide +kernel
theorem dX7_bestQuestion_94 : decode cX7_bestQuestion 94 = .ok (.istore_n 3, 1) := by decide +kernel
theorem dX7_bestQuestion_95 : decode cX7_bestQuestion 95 = .ok (.iinc 6 1, 3) := by decide +kernel
theorem dX7_bestQuestion_98 : decode cX7_bestQuestion 98 = .ok (.goto (-61), 3) := by decide +kernel
theorem dX7_bestQuestion_101 : decode cX7_bestQuestion 101 = .ok (.iinc 5 1, 3) := by decide +kernel
theorem dX7_bestQuestion_104 : decode cX7_bestQuestion 104 = .ok (.goto (-76), 3) := by decide +kernel
theorem dX7_bestQuestion_107 : decode cX7_bestQuestion 107 = .ok (.aload_n 0, 1) := by decide +kernel
theorem dX7_bestQuestion_108 : decode cX7_bestQuestion 108 = .ok (.getfield 23, 3) := by decide +kernel
theorem dX7_bestQuestion_111 : decode cX7_bestQuestion 111 = .ok (.iload 4, 2) := by decide +kernel
theorem dX7_bestQuestion_113 : decode cX7_bestQuestion 113 = .ok (.i2l, 1) := by decide +kernel
theorem dX7_bestQuestion_114 : decode cX7_bestQuestion 114 = .ok (.invokevirtual 44, 3) := by decide +kernel
theorem dX7_bestQuestion_117 : decode cX7_bestQuestion 117 = .ok (.iload_n 3, 1) := by decide +kernel
theorem dX7_bestQuestion_118 : decode cX7_bestQuestion 118 = .ok (.ireturn, 1) := by decide +kernel
theorem dX7_mostOf_0 : decode cX7_mostOf 0 = .ok (.iload_n 0, 1) := by decide +kernel
theorem dX7_mostOf_1 : decode cX7_mostOf 1 = .ok (.ifCond .lt 19, 3) := by decide +kernel
theorem dX7_mostOf_4 : decode cX7_mostOf 4 = .ok (.iload_n 0, 1) := by decide +kernel
theorem dX7_mostOf_5 : decode cX7_mostOf 5 = .ok (.getstatic 60, 3) := by decide +kernel
theorem dX7_mostOf_8 : decode cX7_mostOf 8 = .ok (.arraylength, 1) := by decide +kernel
theorem dX7_mostOf_9 : decode cX7_mostOf 9 = .ok (.if_icmp .ge 11, 3) := by decide +kernel
theorem dX7_mostOf_12 : decode cX7_mostOf 12 = .ok (.getstatic 60, 3) := by decide +kernel
theorem dX7_mostOf_15 : decode cX7_mostOf 15 = .ok (.iload_n 0, 1) := by decide +kernel
theorem dX7_mostOf_16 : decode cX7_mostOf 16 = .ok (.iaload, 1) := by decide +kernel
theorem dX7_mostOf_17 : decode cX7_mostOf 17 = .ok (.goto 4, 3) := by decide +kernel
theorem dX7_mostOf_20 : decode cX7_mostOf 20 = .ok (.iconst (-1), 1) := by decide +kernel
theorem dX7_mostOf_21 : decode cX7_mostOf 21 = .ok (.ireturn, 1) := by decide +kernel
theorem dX7_fittingBits_0 : decode cX7_fittingBits 0 = .ok (.aload_n 0, 1) := by decide +kernel
theorem dX7_fittingBits_1 : decode cX7_fittingBits 1 = .ok (.getfield 19, 3) := by decide +kernel
theorem dX7_fittingBits_4 : decode cX7_fittingBits 4 = .ok (.invokevirtual 63, 3) := by decide +kernel
theorem dX7_fittingBits_7 : decode cX7_fittingBits 7 = .ok (.istore_n 1, 1) := by decide +kernel
theorem dX7_fittingBits_8 : decode cX7_fittingBits 8 = .ok (.iconst 0, 1) := by decide +kernel
theorem dX7_fittingBits_9 : decode cX7_fittingBits 9 = .ok (.istore_n 2, 1) := by decide +kernel
theorem dX7_fittingBits_10 : decode cX7_fittingBits 10 = .ok (.iload_n 2, 1) := by decide +kernel
theorem dX7_fittingBits_11 : decode cX7_fittingBits 11 = .ok (.aload_n 0, 1) := by decide +kernel
theorem dX7_fittingBits_12 : decode cX7_fittingBits 12 = .ok (.getfield 15, 3) := by decide +kernel
theorem dX7_fittingBits_15 : decode cX7_fittingBits 15 = .ok (.if_icmp .ge 63, 3) := by decide +kernel
theorem dX7_fittingBits_18 : decode cX7_fittingBits 18 = .ok (.iload_n 2, 1) := by decide +kernel
theorem dX7_fittingBits_19 : decode cX7_fittingBits 19 = .ok (.bipush 12, 2) := by decide +kernel
theorem dX7_fittingBits_21 : decode cX7_fittingBits 21 = .ok (.if_icmp .ge 57, 3) := by decide +kernel
theorem dX7_fittingBits_24 : decode cX7_fittingBits 24 = .ok (.iconst 0, 1) := by decide +kernel
theorem dX7_fittingBits_25 : decode cX7_fittingBits 25 = .ok (.istore_n 3, 1) := by decide +kernel
theorem dX7_fittingBits_26 : decode cX7_fittingBits 26 = .ok (.iload_n 3, 1) := by decide +kernel
theorem dX7_fittingBits_27 : decode cX7_fittingBits 27 = .ok (.bipush 7, 2) := by decide +kernel
theorem dX7_fittingBits_29 : decode cX7_fittingBits 29 = .ok (.if_icmp .ge 43, 3) := by decide +kernel
theorem dX7_fittingBits_32 : decode cX7_fittingBits 32 = .ok (.aload_n 0, 1) := by decide +kernel
theorem dX7_fittingBits_33 : decode cX7_fittingBits 33 = .ok (.iload_n 3, 1) := by decide +kernel
theorem dX7_fittingBits_34 : decode cX7_fittingBits 34 = .ok (.aload_n 0, 1) := by decide +kernel
theorem dX7_fittingBits_35 : decode cX7_fittingBits 35 = .ok (.getfield 11, 3) := by decide +kernel
theorem dX7_fittingBits_38 : decode cX7_fittingBits 38 = .ok (.iload_n 2, 1) := by decide +kernel
theorem dX7_fittingBits_39 : decode cX7_fittingBits 39 = .ok (.iaload, 1) := by decide +kernel
theorem dX7_fittingBits_40 : decode cX7_fittingBits 40 = .ok (.bipush 100, 2) := by decide +kernel
theorem dX7_fittingBits_42 : decode cX7_fittingBits 42 = .ok (.idiv, 1) := by decide +kernel
theorem dX7_fittingBits_43 : decode cX7_fittingBits 43 = .ok (.aload_n 0, 1) := by decide +kernel
theorem dX7_fittingBits_44 : decode cX7_fittingBits 44 = .ok (.getfield 11, 3) := by decide +kernel
theorem dX7_fittingBits_47 : decode cX7_fittingBits 47 = .ok (.iload_n 2, 1) := by decide +kernel
theorem dX7_fittingBits_48 : decode cX7_fittingBits 48 = .ok (.iaload, 1) := by decide +kernel
theorem dX7_fittingBits_49 : decode cX7_fittingBits 49 = .ok (.bipush 100, 2) := by decide +kernel
theorem dX7_fittingBits_51 : decode cX7_fittingBits 51 = .ok (.irem, 1) := by decide +kernel
theorem dX7_fittingBits_52 : decode cX7_fittingBits 52 = .ok (.invokevirtual 68, 3) := by decide +kernel
theorem dX7_fittingBits_55 : decode cX7_fittingBits 55 = .ok (.ifCond .ne 11, 3) := by decide +kernel
theorem dX7_fittingBits_58 : decode cX7_fittingBits 58 = .ok (.iload_n 1, 1) := by decide +kernel
theorem dX7_fittingBits_59 : decode cX7_fittingBits 59 = .ok (.iconst 1, 1) := by decide +kernel
theorem dX7_fittingBits_60 : decode cX7_fittingBits 60 = .ok (.iload_n 3, 1) := by decide +kernel
theorem dX7_fittingBits_61 : decode cX7_fittingBits 61 = .ok (.ishl, 1) := by decide +kernel
theorem dX7_fittingBits_62 : decode cX7_fittingBits 62 = .ok (.iconst (-1), 1) := by decide +kernel
theorem dX7_fittingBits_63 : decode cX7_fittingBits 63 = .ok (.ixor, 1) := by decide +kernel
theorem dX7_fittingBits_64 : decode cX7_fittingBits 64 = .ok (.iand, 1) := by decide +kernel
theorem dX7_fittingBits_65 : decode cX7_fittingBits 65 = .ok (.istore_n 1, 1) := by decide +kernel
theorem dX7_fittingBits_66 : decode cX7_fittingBits 66 = .ok (.iinc 3 1, 3) := by decide +kernel
theorem dX7_fittingBits_69 : decode cX7_fittingBits 69 = .ok (.goto (-43), 3) := by decide +kernel
theorem dX7_fittingBits_72 : decode cX7_fittingBits 72 = .ok (.iinc 2 1, 3) := by decide +kernel
theorem dX7_fittingBits_75 : decode cX7_fittingBits 75 = .ok (.goto (-65), 3) := by decide +kernel
theorem dX7_fittingBits_78 : decode cX7_fittingBits 78 = .ok (.iload_n 1, 1) := by decide +kernel
theorem dX7_fittingBits_79 : decode cX7_fittingBits 79 = .ok (.ireturn, 1) := by decide +kernel
theorem dX7_howManySo_0 : decode cX7_howManySo 0 = .ok (.iconst 0, 1) := by decide +kernel
theorem dX7_howManySo_1 : decode cX7_howManySo 1 = .ok (.istore 4, 2) := by decide +kernel
theorem dX7_howManySo_3 : decode cX7_howManySo 3 = .ok (.iconst 0, 1) := by decide +kernel
theorem dX7_howManySo_4 : decode cX7_howManySo 4 = .ok (.istore 5, 2) := by decide +kernel
theorem dX7_howManySo_6 : decode cX7_howManySo 6 = .ok (.iload 5, 2) := by decide +kernel
theorem dX7_howManySo_8 : decode cX7_howManySo 8 = .ok (.bipush 7, 2) := by decide +kernel
theorem dX7_howManySo_10 : decode cX7_howManySo 10 = .ok (.if_icmp .ge 33, 3) := by decide +kernel
theorem dX7_howManySo_13 : decode cX7_howManySo 13 = .ok (.iload_n 1, 1) := by decide +kernel
theorem dX7_howManySo_14 : decode cX7_howManySo 14 = .ok (.iload 5, 2) := by decide +kernel
theorem dX7_howManySo_16 : decode cX7_howManySo 16 = .ok (.ishr, 1) := by decide +kernel
theorem dX7_howManySo_17 : decode cX7_howManySo 17 = .ok (.iconst 1, 1) := by decide +kernel
theorem dX7_howManySo_18 : decode cX7_howManySo 18 = .ok (.iand, 1) := by decide +kernel
theorem dX7_howManySo_19 : decode cX7_howManySo 19 = .ok (.iconst 1, 1) := by decide +kernel
theorem dX7_howManySo_20 : decode cX7_howManySo 20 = .ok (.if_icmp .ne 17, 3) := by decide +kernel
theorem dX7_howManySo_23 : decode cX7_howManySo 23 = .ok (.aload_n 0, 1) := by decide +kernel
theorem dX7_howManySo_24 : decode cX7_howManySo 24 = .ok (.iload 5, 2) := by decide +kernel
theorem dX7_howManySo_26 : decode cX7_howManySo 26 = .ok (.iload_n 2, 1) := by decide +kernel
theorem dX7_howManySo_27 : decode cX7_howManySo 27 = .ok (.iload_n 3, 1) := by decide +kernel
theorem dX7_howManySo_28 : decode cX7_howManySo 28 = .ok (.invokevirtual 68, 3) := by decide +kernel
theorem dX7_howManySo_31 : decode cX7_howManySo 31 = .ok (.ifCond .eq 6, 3) := by decide +kernel
theorem dX7_howManySo_34 : decode cX7_howManySo 34 = .ok (.iinc 4 1, 3) := by decide +kernel
theorem dX7_howManySo_37 : decode cX7_howManySo 37 = .ok (.iinc 5 1, 3) := by decide +kernel
theorem dX7_howManySo_40 : decode cX7_howManySo 40 = .ok (.goto (-34), 3) := by decide +kernel
theorem dX7_howManySo_43 : decode cX7_howManySo 43 = .ok (.iload 4, 2) := by decide +kernel
theorem dX7_howManySo_45 : decode cX7_howManySo 45 = .ok (.ireturn, 1) := by decide +kernel
theorem dX7_isSo_0 : decode cX7_isSo 0 = .ok (.aload_n 0, 1) := by decide +kernel
theorem dX7_isSo_1 : decode cX7_isSo 1 = .ok (.getfield 19, 3) := by decide +kernel
theorem dX7_isSo_4 : decode cX7_isSo 4 = .ok (.iload_n 1, 1) := by decide +kernel
theorem dX7_isSo_5 : decode cX7_isSo 5 = .ok (.invokevirtual 71, 3) := by decide +kernel
theorem dX7_isSo_8 : decode cX7_isSo 8 = .ok (.ifCond .ne 5, 3) := by decide +kernel
theorem dX7_isSo_11 : decode cX7_isSo 11 = .ok (.iconst 0, 1) := by decide +kernel
theorem dX7_isSo_12 : decode cX7_isSo 12 = .ok (.ireturn, 1) := by decide +kernel
theorem dX7_isSo_13 : decode cX7_isSo 13 = .ok (.iload_n 2, 1) := by decide +kernel
theorem dX7_isSo_14 : decode cX7_isSo 14 = .ok (.tableswitch 146 0 4 #[34, 53, 72, 91, 110], 34) := by decide +kernel
theorem dX7_isSo_48 : decode cX7_isSo 48 = .ok (.aload_n 0, 1) := by decide +kernel
theorem dX7_isSo_49 : decode cX7_isSo 49 = .ok (.getfield 19, 3) := by decide +kernel
theorem dX7_isSo_52 : decode cX7_isSo 52 = .ok (.getfield 75, 3) := by decide +kernel
theorem dX7_isSo_55 : decode cX7_isSo 55 = .ok (.iload_n 1, 1) := by decide +kernel
theorem dX7_isSo_56 : decode cX7_isSo 56 = .ok (.iaload, 1) := by decide +kernel
theorem dX7_isSo_57 : decode cX7_isSo 57 = .ok (.iload_n 3, 1) := by decide +kernel
theorem dX7_isSo_58 : decode cX7_isSo 58 = .ok (.if_icmp .lt 7, 3) := by decide +kernel
theorem dX7_isSo_61 : decode cX7_isSo 61 = .ok (.iconst 1, 1) := by decide +kernel
theorem dX7_isSo_62 : decode cX7_isSo 62 = .ok (.goto 4, 3) := by decide +kernel
theorem dX7_isSo_65 : decode cX7_isSo 65 = .ok (.iconst 0, 1) := by decide +kernel
theorem dX7_isSo_66 : decode cX7_isSo 66 = .ok (.ireturn, 1) := by decide +kernel
theorem dX7_isSo_67 : decode cX7_isSo 67 = .ok (.aload_n 0, 1) := by decide +kernel
theorem dX7_isSo_68 : decode cX7_isSo 68 = .ok (.getfield 19, 3) := by decide +kernel
theorem dX7_isSo_71 : decode cX7_isSo 71 = .ok (.getfield 78, 3) := by decide +kernel
theorem dX7_isSo_74 : decode cX7_isSo 74 = .ok (.iload_n 1, 1) := by decide +kernel
theorem dX7_isSo_75 : decode cX7_isSo 75 = .ok (.iaload, 1) := by decide +kernel
theorem dX7_isSo_76 : decode cX7_isSo 76 = .ok (.iload_n 3, 1) := by decide +kernel
theorem dX7_isSo_77 : decode cX7_isSo 77 = .ok (.if_icmp .lt 7, 3) := by decide +kernel
theorem dX7_isSo_80 : decode cX7_isSo 80 = .ok (.iconst 1, 1) := by decide +kernel
theorem dX7_isSo_81 : decode cX7_isSo 81 = .ok (.goto 4, 3) := by decide +kernel
theorem dX7_isSo_84 : decode cX7_isSo 84 = .ok (.iconst 0, 1) := by decide +kernel
theorem dX7_isSo_85 : decode cX7_isSo 85 = .ok (.ireturn, 1) := by decide +kernel
theorem dX7_isSo_86 : decode cX7_isSo 86 = .ok (.aload_n 0, 1) := by decide +kernel
theorem dX7_isSo_87 : decode cX7_isSo 87 = .ok (.getfield 19, 3) := by decide +kernel
theorem dX7_isSo_90 : decode cX7_isSo 90 = .ok (.getfield 81, 3) := by decide +kernel
theorem dX7_isSo_93 : decode cX7_isSo 93 = .ok (.iload_n 1, 1) := by decide +kernel
theorem dX7_isSo_94 : decode cX7_isSo 94 = .ok (.iaload, 1) := by decide +kernel
theorem dX7_isSo_95 : decode cX7_isSo 95 = .ok (.iload_n 3, 1) := by decide +kernel
theorem dX7_isSo_96 : decode cX7_isSo 96 = .ok (.if_icmp .ne 7, 3) := by decide +kernel
theorem dX7_isSo_99 : decode cX7_isSo 99 = .ok (.iconst 1, 1) := by decide +kernel
theorem dX7_isSo_100 : decode cX7_isSo 100 = .ok (.goto 4, 3) := by decide +kernel
theorem dX7_isSo_103 : decode cX7_isSo 103 = .ok (.iconst 0, 1) := by decide +kernel
theorem dX7_isSo_104 : decode cX7_isSo 104 = .ok (.ireturn, 1) := by decide +kernel
theorem dX7_isSo_105 : decode cX7_isSo 105 = .ok (.aload_n 0, 1) := by decide +kernel
theorem dX7_isSo_106 : decode cX7_isSo 106 = .ok (.getfield 19, 3) := by decide +kernel
theorem dX7_isSo_109 : decode cX7_isSo 109 = .ok (.getfield 84, 3) := by decide +kernel
theorem dX7_isSo_112 : decode cX7_isSo 112 = .ok (.iload_n 1, 1) := by decide +kernel
theorem dX7_isSo_113 : decode cX7_isSo 113 = .ok (.iaload, 1) := by decide +kernel
theorem dX7_isSo_114 : decode cX7_isSo 114 = .ok (.iload_n 3, 1) := by decide +kernel
theorem dX7_isSo_115 : decode cX7_isSo 115 = .ok (.if_icmp .lt 7, 3) := by decide +kernel
theorem dX7_isSo_118 : decode cX7_isSo 118 = .ok (.iconst 1, 1) := by decide +kernel
theorem dX7_isSo_119 : decode cX7_isSo 119 = .ok (.goto 4, 3) := by decide +kernel
theorem dX7_isSo_122 : decode cX7_isSo 122 = .ok (.iconst 0, 1) := by decide +kernel
theorem dX7_isSo_123 : decode cX7_isSo 123 = .ok (.ireturn, 1) := by decide +kernel
theorem dX7_isSo_124 : decode cX7_isSo 124 = .ok (.aload_n 0, 1) := by decide +kernel
theorem dX7_isSo_125 : decode cX7_isSo 125 = .ok (.getfield 19, 3) := by decide +kernel
theorem dX7_isSo_128 : decode cX7_isSo 128 = .ok (.getfield 87, 3) := by decide +kernel
theorem dX7_isSo_131 : decode cX7_isSo 131 = .ok (.iload_n 1, 1) := by decide +kernel
theorem dX7_isSo_132 : decode cX7_isSo 132 = .ok (.iaload, 1) := by decide +kernel
theorem dX7_isSo_133 : decode cX7_isSo 133 = .ok (.ifCond .le 7, 3) := by decide +kernel
theorem dX7_isSo_136 : decode cX7_isSo 136 = .ok (.iconst 1, 1) := by decide +kernel
theorem dX7_isSo_137 : decode cX7_isSo 137 = .ok (.goto 4, 3) := by decide +kernel
theorem dX7_isSo_140 : decode cX7_isSo 140 = .ok (.iconst 0, 1) := by decide +kernel
theorem dX7_isSo_141 : decode cX7_isSo 141 = .ok (.iload_n 3, 1) := by decide +kernel
theorem dX7_isSo_142 : decode cX7_isSo 142 = .ok (.iconst 1, 1) := by decide +kernel
theorem dX7_isSo_143 : decode cX7_isSo 143 = .ok (.if_icmp .ne 7, 3) := by decide +kernel
theorem dX7_isSo_146 : decode cX7_isSo 146 = .ok (.iconst 1, 1) := by decide +kernel
theorem dX7_isSo_147 : decode cX7_isSo 147 = .ok (.goto 4, 3) := by decide +kernel
theorem dX7_isSo_150 : decode cX7_isSo 150 = .ok (.iconst 0, 1) := by decide +kernel
theorem dX7_isSo_151 : decode cX7_isSo 151 = .ok (.if_icmp .ne 7, 3) := by decide +kernel
theorem dX7_isSo_154 : decode cX7_isSo 154 = .ok (.iconst 1, 1) := by decide +kernel
theorem dX7_isSo_155 : decode cX7_isSo 155 = .ok (.goto 4, 3) := by decide +kernel
theorem dX7_isSo_158 : decode cX7_isSo 158 = .ok (.iconst 0, 1) := by decide +kernel
theorem dX7_isSo_159 : decode cX7_isSo 159 = .ok (.ireturn, 1) := by decide +kernel
theorem dX7_isSo_160 : decode cX7_isSo 160 = .ok (.iconst 0, 1) := by decide +kernel
theorem dX7_isSo_161 : decode cX7_isSo 161 = .ok (.ireturn, 1) := by decide +kernel
theorem dX8_init_0 : decode cX8_init 0 = .ok (.aload_n 0, 1) := by decide +kernel
theorem dX8_init_1 : decode cX8_init 1 = .ok (.invokespecial 3, 3) := by decide +kernel
theorem dX8_init_4 : decode cX8_init 4 = .ok (.aload_n 0, 1) := by decide +kernel
theorem dX8_init_5 : decode cX8_init 5 = .ok (.bipush 10, 2) := by decide +kernel
theorem dX8_init_7 : decode cX8_init 7 = .ok (.newarray .int, 2) := by decide +kernel
theorem dX8_init_9 : decode cX8_init 9 = .ok (.putfield 11, 3) := by decide +kernel
theorem dX8_init_12 : decode cX8_init 12 = .ok (.aload_n 0, 1) := by decide +kernel
theorem dX8_init_13 : decode cX8_init 13 = .ok (.iconst 0, 1) := by decide +kernel
theorem dX8_init_14 : decode cX8_init 14 = .ok (.putfield 15, 3) := by decide +kernel
theorem dX8_init_17 : decode cX8_init 17 = .ok (.aload_n 0, 1) := by decide +kernel
theorem dX8_init_18 : decode cX8_init 18 = .ok (.bipush 40, 2) := by decide +kernel
theorem dX8_init_20 : decode cX8_init 20 = .ok (.newarray .int, 2) := by decide +kernel
theorem dX8_init_22 : decode cX8_init 22 = .ok (.putfield 19, 3) := by decide +kernel
theorem dX8_init_25 : decode cX8_init 25 = .ok (.aload_n 0, 1) := by decide +kernel
theorem dX8_init_26 : decode cX8_init 26 = .ok (.iconst 0, 1) := by decide +kernel
theorem dX8_init_27 : decode cX8_init 27 = .ok (.putfield 22, 3) := by decide +kernel
theorem dX8_init_30 : decode cX8_init 30 = .ok (.aload_n 0, 1) := by decide +kernel
theorem dX8_init_31 : decode cX8_init 31 = .ok (.iconst 0, 1) := by decide +kernel
theorem dX8_init_32 : decode cX8_init 32 = .ok (.putfield 25, 3) := by decide +kernel
theorem dX8_init_35 : decode cX8_init 35 = .ok (.aload_n 0, 1) := by decide +kernel
theorem dX8_init_36 : decode cX8_init 36 = .ok (.iconst 0, 1) := by decide +kernel
theorem dX8_init_37 : decode cX8_init 37 = .ok (.putfield 28, 3) := by decide +kernel
theorem dX8_init_40 : decode cX8_init 40 = .ok (.aload_n 0, 1) := by decide +kernel
theorem dX8_init_41 : decode cX8_init 41 = .ok (.iconst 0, 1) := by decide +kernel
theorem dX8_init_42 : decode cX8_init 42 = .ok (.putfield 31, 3) := by decide +kernel
theorem dX8_init_45 : decode cX8_init 45 = .ok (.aload_n 0, 1) := by decide +kernel
theorem dX8_init_46 : decode cX8_init 46 = .ok (.aload_n 1, 1) := by decide +kernel
theorem dX8_init_47 : decode cX8_init 47 = .ok (.putfield 34, 3) := by decide +kernel
theorem dX8_init_50 : decode cX8_init 50 = .ok (.return_, 1) := by decide +kernel
theorem dX8_see_0 : decode cX8_see 0 = .ok (.iload_n 1, 1) := by decide +kernel
theorem dX8_see_1 : decode cX8_see 1 = .ok (.iconst 0, 1) := by decide +kernel
theorem dX8_see_2 : decode cX8_see 2 = .ok (.bipush 9, 2) := by decide +kernel
theorem dX8_see_4 : decode cX8_see 4 = .ok (.invokestatic 38, 3) := by decide +kernel
theorem dX8_see_7 : decode cX8_see 7 = .ok (.ifCond .ne 25, 3) := by decide +kernel
theorem dX8_see_10 : decode cX8_see 10 = .ok (.iload_n 2, 1) := by decide +kernel
theorem dX8_see_11 : decode cX8_see 11 = .ok (.iconst 0, 1) := by decide +kernel
theorem dX8_see_12 : decode cX8_see 12 = .ok (.iconst 3, 1) := by decide +kernel
theorem dX8_see_13 : decode cX8_see 13 = .ok (.invokestatic 38, 3) := by decide +kernel
theorem dX8_see_16 : decode cX8_see 16 = .ok (.ifCond .ne 16, 3) := by decide +kernel
theorem dX8_see_19 : decode cX8_see 19 = .ok (.aload_n 0, 1) := by decide +kernel
theorem dX8_see_20 : decode cX8_see 20 = .ok (.getfield 15, 3) := by decide +kernel
theorem dX8_see_23 : decode cX8_see 23 = .ok (.iconst 0, 1) := by decide +kernel
theorem dX8_see_24 : decode cX8_see 24 = .ok (.bipush 9, 2) := by decide +kernel
theorem dX8_see_26 : decode cX8_see 26 = .ok (.invokestatic 38, 3) := by decide +kernel
theorem dX8_see_29 : decode cX8_see 29 = .ok (.ifCond .eq 5, 3) := by decide +kernel
theorem dX8_see_32 : decode cX8_see 32 = .ok (.iconst (-1), 1) := by decide +kernel
theorem dX8_see_33 : decode cX8_see 33 = .ok (.ireturn, 1) := by decide +kernel
theorem dX8_see_34 : decode cX8_see 34 = .ok (.aload_n 0, 1) := by decide +kernel
theorem dX8_see_35 : decode cX8_see 35 = .ok (.getfield 11, 3) := by decide +kernel
theorem dX8_see_38 : decode cX8_see 38 = .ok (.aload_n 0, 1) := by decide +kernel
theorem dX8_see_39 : decode cX8_see 39 = .ok (.getfield 15, 3) := by decide +kernel
theorem dX8_see_42 : decode cX8_see 42 = .ok (.bipush 10, 2) := by decide +kernel
theorem dX8_see_44 : decode cX8_see 44 = .ok (.iload_n 1, 1) := by decide +kernel
theorem dX8_see_45 : decode cX8_see 45 = .ok (.imul, 1) := by decide +kernel
theorem dX8_see_46 : decode cX8_see 46 = .ok (.iload_n 2, 1) := by decide +kernel
theorem dX8_see_47 : decode cX8_see 47 = .ok (.iadd, 1) := by decide +kernel
theorem dX8_see_48 : decode cX8_see 48 = .ok (.iastore, 1) := by decide +kernel
theorem dX8_see_49 : decode cX8_see 49 = .ok (.aload_n 0, 1) := by decide +kernel
theorem dX8_see_50 : decode cX8_see 50 = .ok (.dup, 1) := by decide +kernel
theorem dX8_see_51 : decode cX8_see 51 = .ok (.getfield 15, 3) := by decide +kernel
theorem dX8_see_54 : decode cX8_see 54 = .ok (.iconst 1, 1) := by decide +kernel
theorem dX8_see_55 : decode cX8_see 55 = .ok (.iadd, 1) := by decide +kernel
theorem dX8_see_56 : decode cX8_see 56 = .ok (.putfield 15, 3) := by decide +kernel
theorem dX8_see_59 : decode cX8_see 59 = .ok (.aload_n 0, 1) := by decide +kernel
theorem dX8_see_60 : decode cX8_see 60 = .ok (.getfield 15, 3) := by decide +kernel
theorem dX8_see_63 : decode cX8_see 63 = .ok (.ireturn, 1) := by decide +kernel
theorem dX8_drop_0 : decode cX8_drop 0 = .ok (.aload_n 0, 1) := by decide +kernel
theorem dX8_drop_1 : decode cX8_drop 1 = .ok (.getfield 15, 3) := by decide +kernel
theorem dX8_drop_4 : decode cX8_drop 4 = .ok (.istore_n 1, 1) := by decide +kernel
theorem dX8_drop_5 : decode cX8_drop 5 = .ok (.aload_n 0, 1) := by decide +kernel
theorem dX8_drop_6 : decode cX8_drop 6 = .ok (.iconst 0, 1) := by decide +kernel
theorem dX8_drop_7 : decode cX8_drop 7 = .ok (.putfield 15, 3) := by decide +kernel
theorem dX8_drop_10 : decode cX8_drop 10 = .ok (.iload_n 1, 1) := by decide +kernel
theorem dX8_drop_11 : decode cX8_drop 11 = .ok (.ireturn, 1) := by decide +kernel
theorem dX8_fittingLaws_0 : decode cX8_fittingLaws 0 = .ok (.aload_n 0, 1) := by decide +kernel
theorem dX8_fittingLaws_1 : decode cX8_fittingLaws 1 = .ok (.invokevirtual 42, 3) := by decide +kernel
theorem dX8_fittingLaws_4 : decode cX8_fittingLaws 4 = .ok (.aload_n 0, 1) := by decide +kernel
theorem dX8_fittingLaws_5 : decode cX8_fittingLaws 5 = .ok (.getfield 34, 3) := by decide +kernel
theorem dX8_fittingLaws_8 : decode cX8_fittingLaws 8 = .ok (.invokevirtual 45, 3) := by decide +kernel
theorem dX8_fittingLaws_11 : decode cX8_fittingLaws 11 = .ok (.aload_n 0, 1) := by decide +kernel
theorem dX8_fittingLaws_12 : decode cX8_fittingLaws 12 = .ok (.getfield 22, 3) := by decide +kernel
theorem dX8_fittingLaws_15 : decode cX8_fittingLaws 15 = .ok (.ifCond .le 32, 3) := by decide +kernel
theorem dX8_fittingLaws_18 : decode cX8_fittingLaws 18 = .ok (.aload_n 0, 1) := by decide +kernel
theorem dX8_fittingLaws_19 : decode cX8_fittingLaws 19 = .ok (.getfield 34, 3) := by decide +kernel
theorem dX8_fittingLaws_22 : decode cX8_fittingLaws 22 = .ok (.aload_n 0, 1) := by decide +kernel
theorem dX8_fittingLaws_23 : decode cX8_fittingLaws 23 = .ok (.getfield 25, 3) := by decide +kernel
theorem dX8_fittingLaws_26 : decode cX8_fittingLaws 26 = .ok (.i2l, 1) := by decide +kernel
theorem dX8_fittingLaws_27 : decode cX8_fittingLaws 27 = .ok (.aload_n 0, 1) := by decide +kernel
theorem dX8_fittingLaws_28 : decode cX8_fittingLaws 28 = .ok (.getfield 28, 3) := by decide +kernel
theorem dX8_fittingLaws_31 : decode cX8_fittingLaws 31 = .ok (.i2l, 1) := by decide +kernel
theorem dX8_fittingLaws_32 : decode cX8_fittingLaws 32 = .ok (.invokevirtual 50, 3) := by decide +kernel
theorem dX8_fittingLaws_35 : decode cX8_fittingLaws 35 = .ok (.aload_n 0, 1) := by decide +kernel
theorem dX8_fittingLaws_36 : decode cX8_fittingLaws 36 = .ok (.getfield 34, 3) := by decide +kernel
theorem dX8_fittingLaws_39 : decode cX8_fittingLaws 39 = .ok (.aload_n 0, 1) := by decide +kernel
theorem dX8_fittingLaws_40 : decode cX8_fittingLaws 40 = .ok (.getfield 31, 3) := by decide +kernel
theorem dX8_fittingLaws_43 : decode cX8_fittingLaws 43 = .ok (.i2l, 1) := by decide +kernel
theorem dX8_fittingLaws_44 : decode cX8_fittingLaws 44 = .ok (.invokevirtual 54, 3) := by decide +kernel
theorem dX8_fittingLaws_47 : decode cX8_fittingLaws 47 = .ok (.aload_n 0, 1) := by decide +kernel
theorem dX8_fittingLaws_48 : decode cX8_fittingLaws 48 = .ok (.getfield 22, 3) := by decide +kernel
theorem dX8_fittingLaws_51 : decode cX8_fittingLaws 51 = .ok (.ireturn, 1) := by decide +kernel
theorem dX8_bestPace_0 : decode cX8_bestPace 0 = .ok (.aload_n 0, 1) := by decide +kernel
theorem dX8_bestPace_1 : decode cX8_bestPace 1 = .ok (.invokevirtual 42, 3) := by decide +kernel
theorem dX8_bestPace_4 : decode cX8_bestPace 4 = .ok (.aload_n 0, 1) := by decide +kernel
theorem dX8_bestPace_5 : decode cX8_bestPace 5 = .ok (.getfield 22, 3) := by decide +kernel
theorem dX8_bestPace_8 : decode cX8_bestPace 8 = .ok (.ifCond .ne 6, 3) := by decide +kernel
theorem dX8_bestPace_11 : decode cX8_bestPace 11 = .ok (.bipush (-2), 2) := by decide +kernel
theorem dX8_bestPace_13 : decode cX8_bestPace 13 = .ok (.ireturn, 1) := by decide +kernel
theorem dX8_bestPace_14 : decode cX8_bestPace 14 = .ok (.bipush (-2), 2) := by decide +kernel
theorem dX8_bestPace_16 : decode cX8_bestPace 16 = .ok (.istore_n 1, 1) := by decide +kernel
theorem dX8_bestPace_17 : decode cX8_bestPace 17 = .ok (.aload_n 0, 1) := by decide +kernel
theorem dX8_bestPace_18 : decode cX8_bestPace 18 = .ok (.getfield 22, 3) := by decide +kernel
theorem dX8_bestPace_21 : decode cX8_bestPace 21 = .ok (.iconst 1, 1) := by decide +kernel
theorem dX8_bestPace_22 : decode cX8_bestPace 22 = .ok (.iadd, 1) := by decide +kernel
theorem dX8_bestPace_23 : decode cX8_bestPace 23 = .ok (.istore_n 2, 1) := by decide +kernel
theorem dX8_bestPace_24 : decode cX8_bestPace 24 = .ok (.iconst 0, 1) := by decide +kernel
theorem dX8_bestPace_25 : decode cX8_bestPace 25 = .ok (.istore_n 3, 1) := by decide +kernel
theorem dX8_bestPace_26 : decode cX8_bestPace 26 = .ok (.iload_n 3, 1) := by decide +kernel
theorem dX8_bestPace_27 : decode cX8_bestPace 27 = .ok (.bipush 9, 2) := by decide +kernel
theorem dX8_bestPace_29 : decode cX8_bestPace 29 = .ok (.if_icmp .gt 27, 3) := by decide +kernel
theorem dX8_bestPace_32 : decode cX8_bestPace 32 = .ok (.aload_n 0, 1) := by decide +kernel
theorem dX8_bestPace_33 : decode cX8_bestPace 33 = .ok (.iload_n 3, 1) := by decide +kernel
theorem dX8_bestPace_34 : decode cX8_bestPace 34 = .ok (.invokevirtual 58, 3) := by decide +kernel
theorem dX8_bestPace_37 : decode cX8_bestPace 37 = .ok (.istore 4, 2) := by decide +kernel
theorem dX8_bestPace_39 : decode cX8_bestPace 39 = .ok (.iload 4, 2) := by decide +kernel
theorem dX8_bestPace_41 : decode cX8_bestPace 41 = .ok (.iload_n 2, 1) := by decide +kernel
theorem dX8_bestPace_42 : decode cX8_bestPace 42 = .ok (.if_icmp .ge 8, 3) := by decide +kernel
theorem dX8_bestPace_45 : decode cX8_bestPace 45 = .ok (.iload 4, 2) := by decide +kernel
theorem dX8_bestPace_47 : decode cX8_bestPace 47 = .ok (.istore_n 2, 1) := by decide +kernel
theorem dX8_bestPace_48 : decode cX8_bestPace 48 = .ok (.iload_n 3, 1) := by decide +kernel
theorem dX8_bestPace_49 : decode cX8_bestPace 49 = .ok (.istore_n 1, 1) := by decide +kernel
theorem dX8_bestPace_50 : decode cX8_bestPace 50 = .ok (.iinc 3 1, 3) := by decide +kernel
theorem dX8_bestPace_53 : decode cX8_bestPace 53 = .ok (.goto (-27), 3) := by decide +kernel
theorem dX8_bestPace_56 : decode cX8_bestPace 56 = .ok (.aload_n 0, 1) := by decide +kernel
theorem dX8_bestPace_57 : decode cX8_bestPace 57 = .ok (.getfield 34, 3) := by decide +kernel
theorem dX8_bestPace_60 : decode cX8_bestPace 60 = .ok (.iload_n 2, 1) := by decide +kernel
theorem dX8_bestPace_61 : decode cX8_bestPace 61 = .ok (.i2l, 1) := by decide +kernel
theorem dX8_bestPace_62 : decode cX8_bestPace 62 = .ok (.invokevirtual 62, 3) := by decide +kernel
theorem dX8_bestPace_65 : decode cX8_bestPace 65 = .ok (.iload_n 1, 1) := by decide +kernel
theorem dX8_bestPace_66 : decode cX8_bestPace 66 = .ok (.ireturn, 1) := by decide +kernel
theorem dX8_mostLeft_0 : decode cX8_mostLeft 0 = .ok (.iconst 0, 1) := by decide +kernel
theorem dX8_mostLeft_1 : decode cX8_mostLeft 1 = .ok (.istore_n 2, 1) := by decide +kernel
theorem dX8_mostLeft_2 : decode cX8_mostLeft 2 = .ok (.iconst 0, 1) := by decide +kernel
theorem dX8_mostLeft_3 : decode cX8_mostLeft 3 = .ok (.istore_n 3, 1) := by decide +kernel
theorem dX8_mostLeft_4 : decode cX8_mostLeft 4 = .ok (.iload_n 3, 1) := by decide +kernel
theorem dX8_mostLeft_5 : decode cX8_mostLeft 5 = .ok (.iconst 3, 1) := by decide +kernel
theorem dX8_mostLeft_6 : decode cX8_mostLeft 6 = .ok (.if_icmp .gt 43, 3) := by decide +kernel
theorem dX8_mostLeft_9 : decode cX8_mostLeft 9 = .ok (.iload_n 1, 1) := by decide +kernel
theorem dX8_mostLeft_10 : decode cX8_mostLeft 10 = .ok (.iconst 4, 1) := by decide +kernel
theorem dX8_mostLeft_11 : decode cX8_mostLeft 11 = .ok (.imul, 1) := by decide +kernel
theorem dX8_mostLeft_12 : decode cX8_mostLeft 12 = .ok (.iload_n 3, 1) := by decide +kernel
theorem dX8_mostLeft_13 : decode cX8_mostLeft 13 = .ok (.iadd, 1) := by decide +kernel
theorem dX8_mostLeft_14 : decode cX8_mostLeft 14 = .ok (.istore 4, 2) := by decide +kernel
theorem dX8_mostLeft_16 : decode cX8_mostLeft 16 = .ok (.iload 4, 2) := by decide +kernel
theorem dX8_mostLeft_18 : decode cX8_mostLeft 18 = .ok (.ifCond .lt 25, 3) := by decide +kernel
theorem dX8_mostLeft_21 : decode cX8_mostLeft 21 = .ok (.iload 4, 2) := by decide +kernel
theorem dX8_mostLeft_23 : decode cX8_mostLeft 23 = .ok (.aload_n 0, 1) := by decide +kernel
theorem dX8_mostLeft_24 : decode cX8_mostLeft 24 = .ok (.getfield 19, 3) := by decide +kernel
theorem dX8_mostLeft_27 : decode cX8_mostLeft 27 = .ok (.arraylength, 1) := by decide +kernel
theorem dX8_mostLeft_28 : decode cX8_mostLeft 28 = .ok (.if_icmp .ge 15, 3) := by decide +kernel
theorem dX8_mostLeft_31 : decode cX8_mostLeft 31 = .ok (.iload_n 2, 1) := by decide +kernel
theorem dX8_mostLeft_32 : decode cX8_mostLeft 32 = .ok (.aload_n 0, 1) := by decide +kernel
theorem dX8_mostLeft_33 : decode cX8_mostLeft 33 = .ok (.getfield 19, 3) := by decide +kernel
theorem dX8_mostLeft_36 : decode cX8_mostLeft 36 = .ok (.iload 4, 2) := by decide +kernel
theorem dX8_mostLeft_38 : decode cX8_mostLeft 38 = .ok (.iaload, 1) := by decide +kernel
theorem dX8_mostLeft_39 : decode cX8_mostLeft 39 = .ok (.invokestatic 65, 3) := by decide +kernel
theorem dX8_mostLeft_42 : decode cX8_mostLeft 42 = .ok (.istore_n 2, 1) := by decide +kernel
theorem dX8_mostLeft_43 : decode cX8_mostLeft 43 = .ok (.iinc 3 1, 3) := by decide +kernel
theorem dX8_mostLeft_46 : decode cX8_mostLeft 46 = .ok (.goto (-42), 3) := by decide +kernel
theorem dX8_mostLeft_49 : decode cX8_mostLeft 49 = .ok (.iload_n 2, 1) := by decide +kernel
theorem dX8_mostLeft_50 : decode cX8_mostLeft 50 = .ok (.ireturn, 1) := by decide +kernel
theorem dX8_findLaws_0 : decode cX8_findLaws 0 = .ok (.aload_n 0, 1) := by decide +kernel
theorem dX8_findLaws_1 : decode cX8_findLaws 1 = .ok (.iconst 0, 1) := by decide +kernel
theorem dX8_findLaws_2 : decode cX8_findLaws 2 = .ok (.putfield 22, 3) := by decide +kernel
theorem dX8_findLaws_5 : decode cX8_findLaws 5 = .ok (.iconst 0, 1) := by decide +kernel
theorem dX8_findLaws_6 : decode cX8_findLaws 6 = .ok (.istore_n 1, 1) := by decide +kernel
theorem dX8_findLaws_7 : decode cX8_findLaws 7 = .ok (.iload_n 1, 1) := by decide +kernel
theorem dX8_findLaws_8 : decode cX8_findLaws 8 = .ok (.aload_n 0, 1) := by decide +kernel
theorem dX8_findLaws_9 : decode cX8_findLaws 9 = .ok (.getfield 19, 3) := by decide +kernel
theorem dX8_findLaws_12 : decode cX8_findLaws 12 = .ok (.arraylength, 1) := by decide +kernel
theorem dX8_findLaws_13 : decode cX8_findLaws 13 = .ok (.if_icmp .ge 16, 3) := by decide +kernel
theorem dX8_findLaws_16 : decode cX8_findLaws 16 = .ok (.aload_n 0, 1) := by decide +kernel
theorem dX8_findLaws_17 : decode cX8_findLaws 17 = .ok (.getfield 19, 3) := by decide +kernel
theorem dX8_findLaws_20 : decode cX8_findLaws 20 = .ok (.iload_n 1, 1) := by decide +kernel
theorem dX8_findLaws_21 : decode cX8_findLaws 21 = .ok (.iconst 0, 1) := by decide +kernel
theorem dX8_findLaws_22 : decode cX8_findLaws 22 = .ok (.iastore, 1) := by decide +kernel
theorem dX8_findLaws_23 : decode cX8_findLaws 23 = .ok (.iinc 1 1, 3) := by decide +kernel
theorem dX8_findLaws_26 : decode cX8_findLaws 26 = .ok (.goto (-19), 3) := by decide +kernel
theorem dX8_findLaws_29 : decode cX8_findLaws 29 = .ok (.iconst 0, 1) := by decide +kernel
theorem dX8_findLaws_30 : decode cX8_findLaws 30 = .ok (.istore_n 1, 1) := by decide +kernel
theorem dX8_findLaws_31 : decode cX8_findLaws 31 = .ok (.iload_n 1, 1) := by decide +kernel
theorem dX8_findLaws_32 : decode cX8_findLaws 32 = .ok (.iconst 3, 1) := by decide +kernel
theorem dX8_findLaws_33 : decode cX8_findLaws 33 = .ok (.if_icmp .gt 52, 3) := by decide +kernel
theorem dX8_findLaws_36 : decode cX8_findLaws 36 = .ok (.iconst 1, 1) := by decide +kernel
theorem dX8_findLaws_37 : decode cX8_findLaws 37 = .ok (.istore_n 2, 1) := by decide +kernel
theorem dX8_findLaws_38 : decode cX8_findLaws 38 = .ok (.iload_n 2, 1) := by decide +kernel
theorem dX8_findLaws_39 : decode cX8_findLaws 39 = .ok (.iconst 5, 1) := by decide +kernel
theorem dX8_findLaws_40 : decode cX8_findLaws 40 = .ok (.if_icmp .gt 39, 3) := by decide +kernel
theorem dX8_findLaws_43 : decode cX8_findLaws 43 = .ok (.iconst 0, 1) := by decide +kernel
theorem dX8_findLaws_44 : decode cX8_findLaws 44 = .ok (.istore_n 3, 1) := by decide +kernel
theorem dX8_findLaws_45 : decode cX8_findLaws 45 = .ok (.iload_n 3, 1) := by decide +kernel
theorem dX8_findLaws_46 : decode cX8_findLaws 46 = .ok (.iconst 3, 1) := by decide +kernel
theorem dX8_findLaws_47 : decode cX8_findLaws 47 = .ok (.if_icmp .gt 26, 3) := by decide +kernel
theorem dX8_findLaws_50 : decode cX8_findLaws 50 = .ok (.aload_n 0, 1) := by decide +kernel
theorem dX8_findLaws_51 : decode cX8_findLaws 51 = .ok (.iload_n 1, 1) := by decide +kernel
theorem dX8_findLaws_52 : decode cX8_findLaws 52 = .ok (.iload_n 2, 1) := by decide +kernel
theorem dX8_findLaws_53 : decode cX8_findLaws 53 = .ok (.iload_n 3, 1) := by decide +kernel
theorem dX8_findLaws_54 : decode cX8_findLaws 54 = .ok (.invokevirtual 71, 3) := by decide +kernel
theorem dX8_findLaws_57 : decode cX8_findLaws 57 = .ok (.ifCond .eq 10, 3) := by decide +kernel
theorem dX8_findLaws_60 : decode cX8_findLaws 60 = .ok (.aload_n 0, 1) := by decide +kernel
theorem dX8_findLaws_61 : decode cX8_findLaws 61 = .ok (.iload_n 1, 1) := by decide +kernel
theorem dX8_findLaws_62 : decode cX8_findLaws 62 = .ok (.iload_n 2, 1) := by decide +kernel
theorem dX8_findLaws_63 : decode cX8_findLaws 63 = .ok (.iload_n 3, 1) := by decide +kernel
theorem dX8_findLaws_64 : decode cX8_findLaws 64 = .ok (.invokevirtual 74, 3) := by decide +kernel
theorem dX8_findLaws_67 : decode cX8_findLaws 67 = .ok (.iinc 3 1, 3) := by decide +kernel
theorem dX8_findLaws_70 : decode cX8_findLaws 70 = .ok (.goto (-25), 3) := by decide +kernel
theorem dX8_findLaws_73 : decode cX8_findLaws 73 = .ok (.iinc 2 1, 3) := by decide +kernel
theorem dX8_findLaws_76 : decode cX8_findLaws 76 = .ok (.goto (-38), 3) := by decide +kernel
theorem dX8_findLaws_79 : decode cX8_findLaws 79 = .ok (.iinc 1 1, 3) := by decide +kernel
theorem dX8_findLaws_82 : decode cX8_findLaws 82 = .ok (.goto (-51), 3) := by decide +kernel
theorem dX8_findLaws_85 : decode cX8_findLaws 85 = .ok (.return_, 1) := by decide +kernel
theorem dX8_addLaw_0 : decode cX8_addLaw 0 = .ok (.aload_n 0, 1) := by decide +kernel
theorem dX8_addLaw_1 : decode cX8_addLaw 1 = .ok (.getfield 22, 3) := by decide +kernel
theorem dX8_addLaw_4 : decode cX8_addLaw 4 = .ok (.ifCond .ne 18, 3) := by decide +kernel
theorem dX8_addLaw_7 : decode cX8_addLaw 7 = .ok (.aload_n 0, 1) := by decide +kernel
theorem dX8_addLaw_8 : decode cX8_addLaw 8 = .ok (.iload_n 1, 1) := by decide +kernel
theorem dX8_addLaw_9 : decode cX8_addLaw 9 = .ok (.putfield 25, 3) := by decide +kernel
theorem dX8_addLaw_12 : decode cX8_addLaw 12 = .ok (.aload_n 0, 1) := by decide +kernel
theorem dX8_addLaw_13 : decode cX8_addLaw 13 = .ok (.iload_n 2, 1) := by decide +kernel
theorem dX8_addLaw_14 : decode cX8_addLaw 14 = .ok (.putfield 28, 3) := by decide +kernel
theorem dX8_addLaw_17 : decode cX8_addLaw 17 = .ok (.aload_n 0, 1) := by decide +kernel
theorem dX8_addLaw_18 : decode cX8_addLaw 18 = .ok (.iload_n 3, 1) := by decide +kernel
theorem dX8_addLaw_19 : decode cX8_addLaw 19 = .ok (.putfield 31, 3) := by decide +kernel
theorem dX8_addLaw_22 : decode cX8_addLaw 22 = .ok (.aload_n 0, 1) := by decide +kernel
theorem dX8_addLaw_23 : decode cX8_addLaw 23 = .ok (.dup, 1) := by decide +kernel
theorem dX8_addLaw_24 : decode cX8_addLaw 24 = .ok (.getfield 22, 3) := by decide +kernel
theorem dX8_addLaw_27 : decode cX8_addLaw 27 = .ok (.iconst 1, 1) := by decide +kernel
theorem dX8_addLaw_28 : decode cX8_addLaw 28 = .ok (.iadd, 1) := by decide +kernel
theorem dX8_addLaw_29 : decode cX8_addLaw 29 = .ok (.putfield 22, 3) := by decide +kernel
theorem dX8_addLaw_32 : decode cX8_addLaw 32 = .ok (.iconst 0, 1) := by decide +kernel
theorem dX8_addLaw_33 : decode cX8_addLaw 33 = .ok (.istore 4, 2) := by decide +kernel
theorem dX8_addLaw_35 : decode cX8_addLaw 35 = .ok (.iload 4, 2) := by decide +kernel
theorem dX8_addLaw_37 : decode cX8_addLaw 37 = .ok (.bipush 9, 2) := by decide +kernel
theorem dX8_addLaw_39 : decode cX8_addLaw 39 = .ok (.if_icmp .gt 50, 3) := by decide +kernel
theorem dX8_addLaw_42 : decode cX8_addLaw 42 = .ok (.iload 4, 2) := by decide +kernel
theorem dX8_addLaw_44 : decode cX8_addLaw 44 = .ok (.iconst 4, 1) := by decide +kernel
theorem dX8_addLaw_45 : decode cX8_addLaw 45 = .ok (.imul, 1) := by decide +kernel
theorem dX8_addLaw_46 : decode cX8_addLaw 46 = .ok (.iload_n 1, 1) := by decide +kernel
theorem dX8_addLaw_47 : decode cX8_addLaw 47 = .ok (.iload_n 2, 1) := by decide +kernel
theorem dX8_addLaw_48 : decode cX8_addLaw 48 = .ok (.iload_n 3, 1) := by decide +kernel
theorem dX8_addLaw_49 : decode cX8_addLaw 49 = .ok (.iload 4, 2) := by decide +kernel
theorem dX8_addLaw_51 : decode cX8_addLaw 51 = .ok (.invokestatic 78, 3) := by decide +kernel
theorem dX8_addLaw_54 : decode cX8_addLaw 54 = .ok (.iadd, 1) := by decide +kernel
theorem dX8_addLaw_55 : decode cX8_addLaw 55 = .ok (.istore 5, 2) := by decide +kernel
theorem dX8_addLaw_57 : decode cX8_addLaw 57 = .ok (.iload 5, 2) := by decide +kernel
theorem dX8_addLaw_59 : decode cX8_addLaw 59 = .ok (.ifCond .lt 24, 3) := by decide +kernel
theorem dX8_addLaw_62 : decode cX8_addLaw 62 = .ok (.iload 5, 2) := by decide +kernel
theorem dX8_addLaw_64 : decode cX8_addLaw 64 = .ok (.aload_n 0, 1) := by decide +kernel
theorem dX8_addLaw_65 : decode cX8_addLaw 65 = .ok (.getfield 19, 3) := by decide +kernel
theorem dX8_addLaw_68 : decode cX8_addLaw 68 = .ok (.arraylength, 1) := by decide +kernel
theorem dX8_addLaw_69 : decode cX8_addLaw 69 = .ok (.if_icmp .ge 14, 3) := by decide +kernel
theorem dX8_addLaw_72 : decode cX8_addLaw 72 = .ok (.aload_n 0, 1) := by decide +kernel
theorem dX8_addLaw_73 : decode cX8_addLaw 73 = .ok (.getfield 19, 3) := by decide +kernel
theorem dX8_addLaw_76 : decode cX8_addLaw 76 = .ok (.iload 5, 2) := by decide +kernel
theorem dX8_addLaw_78 : decode cX8_addLaw 78 = .ok (.dup2, 1) := by decide +kernel
theorem dX8_addLaw_79 : decode cX8_addLaw 79 = .ok (.iaload, 1) := by decide +kernel
theorem dX8_addLaw_80 : decode cX8_addLaw 80 = .ok (.iconst 1, 1) := by decide +kernel
theorem dX8_addLaw_81 : decode cX8_addLaw 81 = .ok (.iadd, 1) := by decide +kernel
theorem dX8_addLaw_82 : decode cX8_addLaw 82 = .ok (.iastore, 1) := by decide +kernel
theorem dX8_addLaw_83 : decode cX8_addLaw 83 = .ok (.iinc 4 1, 3) := by decide +kernel
theorem dX8_addLaw_86 : decode cX8_addLaw 86 = .ok (.goto (-51), 3) := by decide +kernel
theorem dX8_addLaw_89 : decode cX8_addLaw 89 = .ok (.return_, 1) := by decide +kernel
theorem dX8_lawFits_0 : decode cX8_lawFits 0 = .ok (.iconst 0, 1) := by decide +kernel
theorem dX8_lawFits_1 : decode cX8_lawFits 1 = .ok (.istore 4, 2) := by decide +kernel
theorem dX8_lawFits_3 : decode cX8_lawFits 3 = .ok (.iload 4, 2) := by decide +kernel
theorem dX8_lawFits_5 : decode cX8_lawFits 5 = .ok (.aload_n 0, 1) := by decide +kernel
theorem dX8_lawFits_6 : decode cX8_lawFits 6 = .ok (.getfield 15, 3) := by decide +kernel
theorem dX8_lawFits_9 : decode cX8_lawFits 9 = .ok (.if_icmp .ge 47, 3) := by decide +kernel
theorem dX8_lawFits_12 : decode cX8_lawFits 12 = .ok (.iload 4, 2) := by decide +kernel
theorem dX8_lawFits_14 : decode cX8_lawFits 14 = .ok (.bipush 10, 2) := by decide +kernel
theorem dX8_lawFits_16 : decode cX8_lawFits 16 = .ok (.if_icmp .ge 40, 3) := by decide +kernel
theorem dX8_lawFits_19 : decode cX8_lawFits 19 = .ok (.iload_n 1, 1) := by decide +kernel
theorem dX8_lawFits_20 : decode cX8_lawFits 20 = .ok (.iload_n 2, 1) := by decide +kernel
theorem dX8_lawFits_21 : decode cX8_lawFits 21 = .ok (.iload_n 3, 1) := by decide +kernel
theorem dX8_lawFits_22 : decode cX8_lawFits 22 = .ok (.aload_n 0, 1) := by decide +kernel
theorem dX8_lawFits_23 : decode cX8_lawFits 23 = .ok (.getfield 11, 3) := by decide +kernel
theorem dX8_lawFits_26 : decode cX8_lawFits 26 = .ok (.iload 4, 2) := by decide +kernel
theorem dX8_lawFits_28 : decode cX8_lawFits 28 = .ok (.iaload, 1) := by decide +kernel
theorem dX8_lawFits_29 : decode cX8_lawFits 29 = .ok (.bipush 10, 2) := by decide +kernel
theorem dX8_lawFits_31 : decode cX8_lawFits 31 = .ok (.idiv, 1) := by decide +kernel
theorem dX8_lawFits_32 : decode cX8_lawFits 32 = .ok (.invokestatic 78, 3) := by decide +kernel
theorem dX8_lawFits_35 : decode cX8_lawFits 35 = .ok (.aload_n 0, 1) := by decide +kernel
theorem dX8_lawFits_36 : decode cX8_lawFits 36 = .ok (.getfield 11, 3) := by decide +kernel
theorem dX8_lawFits_39 : decode cX8_lawFits 39 = .ok (.iload 4, 2) := by decide +kernel
theorem dX8_lawFits_41 : decode cX8_lawFits 41 = .ok (.iaload, 1) := by decide +kernel
theorem dX8_lawFits_42 : decode cX8_lawFits 42 = .ok (.bipush 10, 2) := by decide +kernel
theorem dX8_lawFits_44 : decode cX8_lawFits 44 = .ok (.irem, 1) := by decide +kernel
theorem dX8_lawFits_45 : decode cX8_lawFits 45 = .ok (.if_icmp .eq 5, 3) := by decide +kernel
theorem dX8_lawFits_48 : decode cX8_lawFits 48 = .ok (.iconst 0, 1) := by decide +kernel
theorem dX8_lawFits_49 : decode cX8_lawFits 49 = .ok (.ireturn, 1) := by decide +kernel
theorem dX8_lawFits_50 : decode cX8_lawFits 50 = .ok (.iinc 4 1, 3) := by decide +kernel
theorem dX8_lawFits_53 : decode cX8_lawFits 53 = .ok (.goto (-50), 3) := by decide +kernel
theorem dX8_lawFits_56 : decode cX8_lawFits 56 = .ok (.iconst 1, 1) := by decide +kernel
theorem dX8_lawFits_57 : decode cX8_lawFits 57 = .ok (.ireturn, 1) := by decide +kernel
theorem dX8_stepsBy_0 : decode cX8_stepsBy 0 = .ok (.iload_n 1, 1) := by decide +kernel
theorem dX8_stepsBy_1 : decode cX8_stepsBy 1 = .ok (.iconst 1, 1) := by decide +kernel
theorem dX8_stepsBy_2 : decode cX8_stepsBy 2 = .ok (.if_icmp .ge 7, 3) := by decide +kernel
theorem dX8_stepsBy_5 : decode cX8_stepsBy 5 = .ok (.iconst 0, 1) := by decide +kernel
theorem dX8_stepsBy_6 : decode cX8_stepsBy 6 = .ok (.goto 12, 3) := by decide +kernel
theorem dX8_stepsBy_9 : decode cX8_stepsBy 9 = .ok (.iload_n 2, 1) := by decide +kernel
theorem dX8_stepsBy_10 : decode cX8_stepsBy 10 = .ok (.iload_n 0, 1) := by decide +kernel
theorem dX8_stepsBy_11 : decode cX8_stepsBy 11 = .ok (.iload_n 3, 1) := by decide +kernel
theorem dX8_stepsBy_12 : decode cX8_stepsBy 12 = .ok (.iload_n 1, 1) := by decide +kernel
theorem dX8_stepsBy_13 : decode cX8_stepsBy 13 = .ok (.idiv, 1) := by decide +kernel
theorem dX8_stepsBy_14 : decode cX8_stepsBy 14 = .ok (.iadd, 1) := by decide +kernel
theorem dX8_stepsBy_15 : decode cX8_stepsBy 15 = .ok (.invokestatic 82, 3) := by decide +kernel
theorem dX8_stepsBy_18 : decode cX8_stepsBy 18 = .ok (.ireturn, 1) := by decide +kernel
theorem dX9_init_0 : decode cX9_init 0 = .ok (.aload_n 0, 1) := by decide +kernel
theorem dX9_init_1 : decode cX9_init 1 = .ok (.invokespecial 3, 3) := by decide +kernel
theorem dX9_init_4 : decode cX9_init 4 = .ok (.aload_n 0, 1) := by decide +kernel
theorem dX9_init_5 : decode cX9_init 5 = .ok (.bipush 7, 2) := by decide +kernel
theorem dX9_init_7 : decode cX9_init 7 = .ok (.newarray .int, 2) := by decide +kernel
theorem dX9_init_9 : decode cX9_init 9 = .ok (.putfield 9, 3) := by decide +kernel
theorem dX9_init_12 : decode cX9_init 12 = .ok (.aload_n 0, 1) := by decide +kernel
theorem dX9_init_13 : decode cX9_init 13 = .ok (.aload_n 1, 1) := by decide +kernel
theorem dX9_init_14 : decode cX9_init 14 = .ok (.putfield 15, 3) := by decide +kernel
theorem dX9_init_17 : decode cX9_init 17 = .ok (.aload_n 0, 1) := by decide +kernel
theorem dX9_init_18 : decode cX9_init 18 = .ok (.aload_n 2, 1) := by decide +kernel
theorem dX9_init_19 : decode cX9_init 19 = .ok (.putfield 19, 3) := by decide +kernel
theorem dX9_init_22 : decode cX9_init 22 = .ok (.return_, 1) := by decide +kernel
theorem dX9_fewestLawyers_0 : decode cX9_fewestLawyers 0 = .ok (.iconst 0, 1) := by decide +kernel
theorem dX9_fewestLawyers_1 : decode cX9_fewestLawyers 1 = .ok (.istore_n 2, 1) := by decide +kernel
theorem dX9_fewestLawyers_2 : decode cX9_fewestLawyers 2 = .ok (.iload_n 2, 1) := by decide +kernel
theorem dX9_fewestLawyers_3 : decode cX9_fewestLawyers 3 = .ok (.bipush 7, 2) := by decide +kernel
theorem dX9_fewestLawyers_5 : decode cX9_fewestLawyers 5 = .ok (.if_icmp .ge 40, 3) := by decide +kernel
theorem dX9_fewestLawyers_8 : decode cX9_fewestLawyers 8 = .ok (.iload_n 2, 1) := by decide +kernel
