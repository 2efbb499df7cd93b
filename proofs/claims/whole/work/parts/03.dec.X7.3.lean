/-! decode rows -/
theorem dX7_rules_55 : decode cX7_rules 55 = .ok (.if_icmp .gt 40, 3) := by decide +kernel
theorem dX7_rules_58 : decode cX7_rules 58 = .ok (.aload_n 0, 1) := by decide +kernel
theorem dX7_rules_59 : decode cX7_rules 59 = .ok (.getfield 44, 3) := by decide +kernel
theorem dX7_rules_62 : decode cX7_rules 62 = .ok (.iload_n 1, 1) := by decide +kernel
theorem dX7_rules_63 : decode cX7_rules 63 = .ok (.iload 5, 2) := by decide +kernel
theorem dX7_rules_65 : decode cX7_rules 65 = .ok (.iastore, 1) := by decide +kernel
theorem dX7_rules_66 : decode cX7_rules 66 = .ok (.aload_n 0, 1) := by decide +kernel
theorem dX7_rules_67 : decode cX7_rules 67 = .ok (.invokevirtual 236, 3) := by decide +kernel
theorem dX7_rules_70 : decode cX7_rules 70 = .ok (.aload_n 0, 1) := by decide +kernel
theorem dX7_rules_71 : decode cX7_rules 71 = .ok (.getfield 99, 3) := by decide +kernel
theorem dX7_rules_74 : decode cX7_rules 74 = .ok (.iload_n 1, 1) := by decide +kernel
theorem dX7_rules_75 : decode cX7_rules 75 = .ok (.iaload, 1) := by decide +kernel
theorem dX7_rules_76 : decode cX7_rules 76 = .ok (.iload_n 2, 1) := by decide +kernel
theorem dX7_rules_77 : decode cX7_rules 77 = .ok (.if_icmp .ne 12, 3) := by decide +kernel
theorem dX7_rules_80 : decode cX7_rules 80 = .ok (.iload 4, 2) := by decide +kernel
theorem dX7_rules_82 : decode cX7_rules 82 = .ok (.iconst 1, 1) := by decide +kernel
theorem dX7_rules_83 : decode cX7_rules 83 = .ok (.iload 5, 2) := by decide +kernel
theorem dX7_rules_85 : decode cX7_rules 85 = .ok (.ishl, 1) := by decide +kernel
theorem dX7_rules_86 : decode cX7_rules 86 = .ok (.iadd, 1) := by decide +kernel
theorem dX7_rules_87 : decode cX7_rules 87 = .ok (.istore 4, 2) := by decide +kernel
theorem dX7_rules_89 : decode cX7_rules 89 = .ok (.iinc 5 1, 3) := by decide +kernel
theorem dX7_rules_92 : decode cX7_rules 92 = .ok (.goto (-40), 3) := by decide +kernel
theorem dX7_rules_95 : decode cX7_rules 95 = .ok (.aload_n 0, 1) := by decide +kernel
theorem dX7_rules_96 : decode cX7_rules 96 = .ok (.getfield 44, 3) := by decide +kernel
theorem dX7_rules_99 : decode cX7_rules 99 = .ok (.iload_n 1, 1) := by decide +kernel
theorem dX7_rules_100 : decode cX7_rules 100 = .ok (.iload_n 3, 1) := by decide +kernel
theorem dX7_rules_101 : decode cX7_rules 101 = .ok (.iastore, 1) := by decide +kernel
theorem dX7_rules_102 : decode cX7_rules 102 = .ok (.iload 4, 2) := by decide +kernel
theorem dX7_rules_104 : decode cX7_rules 104 = .ok (.ireturn, 1) := by decide +kernel
theorem dX7_hide_0 : decode cX7_hide 0 = .ok (.aload_n 0, 1) := by decide +kernel
theorem dX7_hide_1 : decode cX7_hide 1 = .ok (.invokevirtual 236, 3) := by decide +kernel
theorem dX7_hide_4 : decode cX7_hide 4 = .ok (.iconst (-1), 1) := by decide +kernel
theorem dX7_hide_5 : decode cX7_hide 5 = .ok (.istore_n 1, 1) := by decide +kernel
theorem dX7_hide_6 : decode cX7_hide 6 = .ok (.iconst 0, 1) := by decide +kernel
theorem dX7_hide_7 : decode cX7_hide 7 = .ok (.istore_n 2, 1) := by decide +kernel
theorem dX7_hide_8 : decode cX7_hide 8 = .ok (.iload_n 2, 1) := by decide +kernel
theorem dX7_hide_9 : decode cX7_hide 9 = .ok (.aload_n 0, 1) := by decide +kernel
theorem dX7_hide_10 : decode cX7_hide 10 = .ok (.getfield 129, 3) := by decide +kernel
theorem dX7_hide_13 : decode cX7_hide 13 = .ok (.if_icmp .ge 40, 3) := by decide +kernel
theorem dX7_hide_16 : decode cX7_hide 16 = .ok (.aload_n 0, 1) := by decide +kernel
theorem dX7_hide_17 : decode cX7_hide 17 = .ok (.getfield 108, 3) := by decide +kernel
theorem dX7_hide_20 : decode cX7_hide 20 = .ok (.iload_n 2, 1) := by decide +kernel
theorem dX7_hide_21 : decode cX7_hide 21 = .ok (.iaload, 1) := by decide +kernel
theorem dX7_hide_22 : decode cX7_hide 22 = .ok (.ifCond .le 25, 3) := by decide +kernel
theorem dX7_hide_25 : decode cX7_hide 25 = .ok (.iload_n 1, 1) := by decide +kernel
theorem dX7_hide_26 : decode cX7_hide 26 = .ok (.iconst (-1), 1) := by decide +kernel
theorem dX7_hide_27 : decode cX7_hide 27 = .ok (.if_icmp .eq 18, 3) := by decide +kernel
theorem dX7_hide_30 : decode cX7_hide 30 = .ok (.aload_n 0, 1) := by decide +kernel
theorem dX7_hide_31 : decode cX7_hide 31 = .ok (.getfield 108, 3) := by decide +kernel
theorem dX7_hide_34 : decode cX7_hide 34 = .ok (.iload_n 2, 1) := by decide +kernel
theorem dX7_hide_35 : decode cX7_hide 35 = .ok (.iaload, 1) := by decide +kernel
theorem dX7_hide_36 : decode cX7_hide 36 = .ok (.aload_n 0, 1) := by decide +kernel
theorem dX7_hide_37 : decode cX7_hide 37 = .ok (.getfield 108, 3) := by decide +kernel
theorem dX7_hide_40 : decode cX7_hide 40 = .ok (.iload_n 1, 1) := by decide +kernel
theorem dX7_hide_41 : decode cX7_hide 41 = .ok (.iaload, 1) := by decide +kernel
theorem dX7_hide_42 : decode cX7_hide 42 = .ok (.if_icmp .le 5, 3) := by decide +kernel
theorem dX7_hide_45 : decode cX7_hide 45 = .ok (.iload_n 2, 1) := by decide +kernel
theorem dX7_hide_46 : decode cX7_hide 46 = .ok (.istore_n 1, 1) := by decide +kernel
theorem dX7_hide_47 : decode cX7_hide 47 = .ok (.iinc 2 1, 3) := by decide +kernel
theorem dX7_hide_50 : decode cX7_hide 50 = .ok (.goto (-42), 3) := by decide +kernel
theorem dX7_hide_53 : decode cX7_hide 53 = .ok (.iload_n 1, 1) := by decide +kernel
theorem dX7_hide_54 : decode cX7_hide 54 = .ok (.ireturn, 1) := by decide +kernel
theorem dX7_lose_0 : decode cX7_lose 0 = .ok (.aload_n 0, 1) := by decide +kernel
theorem dX7_lose_1 : decode cX7_lose 1 = .ok (.iload_n 1, 1) := by decide +kernel
theorem dX7_lose_2 : decode cX7_lose 2 = .ok (.invokevirtual 143, 3) := by decide +kernel
theorem dX7_lose_5 : decode cX7_lose 5 = .ok (.ifCond .ne 12, 3) := by decide +kernel
theorem dX7_lose_8 : decode cX7_lose 8 = .ok (.aload_n 0, 1) := by decide +kernel
theorem dX7_lose_9 : decode cX7_lose 9 = .ok (.iconst (-1), 1) := by decide +kernel
theorem dX7_lose_10 : decode cX7_lose 10 = .ok (.invokevirtual 139, 3) := by decide +kernel
theorem dX7_lose_13 : decode cX7_lose 13 = .ok (.bipush 100, 2) := by decide +kernel
theorem dX7_lose_15 : decode cX7_lose 15 = .ok (.isub, 1) := by decide +kernel
theorem dX7_lose_16 : decode cX7_lose 16 = .ok (.ireturn, 1) := by decide +kernel
theorem dX7_lose_17 : decode cX7_lose 17 = .ok (.aload_n 0, 1) := by decide +kernel
theorem dX7_lose_18 : decode cX7_lose 18 = .ok (.getfield 38, 3) := by decide +kernel
theorem dX7_lose_21 : decode cX7_lose 21 = .ok (.iload_n 1, 1) := by decide +kernel
theorem dX7_lose_22 : decode cX7_lose 22 = .ok (.iaload, 1) := by decide +kernel
theorem dX7_lose_23 : decode cX7_lose 23 = .ok (.iconst 1, 1) := by decide +kernel
theorem dX7_lose_24 : decode cX7_lose 24 = .ok (.if_icmp .ne 13, 3) := by decide +kernel
theorem dX7_lose_27 : decode cX7_lose 27 = .ok (.aload_n 0, 1) := by decide +kernel
theorem dX7_lose_28 : decode cX7_lose 28 = .ok (.bipush (-6), 2) := by decide +kernel
theorem dX7_lose_30 : decode cX7_lose 30 = .ok (.invokevirtual 139, 3) := by decide +kernel
theorem dX7_lose_33 : decode cX7_lose 33 = .ok (.bipush 100, 2) := by decide +kernel
theorem dX7_lose_35 : decode cX7_lose 35 = .ok (.isub, 1) := by decide +kernel
theorem dX7_lose_36 : decode cX7_lose 36 = .ok (.ireturn, 1) := by decide +kernel
theorem dX7_lose_37 : decode cX7_lose 37 = .ok (.aload_n 0, 1) := by decide +kernel
theorem dX7_lose_38 : decode cX7_lose 38 = .ok (.invokevirtual 236, 3) := by decide +kernel
theorem dX7_lose_41 : decode cX7_lose 41 = .ok (.aload_n 0, 1) := by decide +kernel
theorem dX7_lose_42 : decode cX7_lose 42 = .ok (.getfield 227, 3) := by decide +kernel
theorem dX7_lose_45 : decode cX7_lose 45 = .ok (.istore_n 2, 1) := by decide +kernel
theorem dX7_lose_46 : decode cX7_lose 46 = .ok (.aload_n 0, 1) := by decide +kernel
theorem dX7_lose_47 : decode cX7_lose 47 = .ok (.getfield 38, 3) := by decide +kernel
theorem dX7_lose_50 : decode cX7_lose 50 = .ok (.iload_n 1, 1) := by decide +kernel
theorem dX7_lose_51 : decode cX7_lose 51 = .ok (.iconst 1, 1) := by decide +kernel
theorem dX7_lose_52 : decode cX7_lose 52 = .ok (.iastore, 1) := by decide +kernel
theorem dX7_lose_53 : decode cX7_lose 53 = .ok (.aload_n 0, 1) := by decide +kernel
theorem dX7_lose_54 : decode cX7_lose 54 = .ok (.invokevirtual 236, 3) := by decide +kernel
theorem dX7_lose_57 : decode cX7_lose 57 = .ok (.aload_n 0, 1) := by decide +kernel
theorem dX7_lose_58 : decode cX7_lose 58 = .ok (.getfield 38, 3) := by decide +kernel
theorem dX7_lose_61 : decode cX7_lose 61 = .ok (.iload_n 1, 1) := by decide +kernel
theorem dX7_lose_62 : decode cX7_lose 62 = .ok (.iconst 0, 1) := by decide +kernel
theorem dX7_lose_63 : decode cX7_lose 63 = .ok (.iastore, 1) := by decide +kernel
theorem dX7_lose_64 : decode cX7_lose 64 = .ok (.aload_n 0, 1) := by decide +kernel
theorem dX7_lose_65 : decode cX7_lose 65 = .ok (.getfield 227, 3) := by decide +kernel
theorem dX7_lose_68 : decode cX7_lose 68 = .ok (.iload_n 2, 1) := by decide +kernel
theorem dX7_lose_69 : decode cX7_lose 69 = .ok (.isub, 1) := by decide +kernel
theorem dX7_lose_70 : decode cX7_lose 70 = .ok (.ireturn, 1) := by decide +kernel
theorem dX7_best_0 : decode cX7_best 0 = .ok (.iconst (-1), 1) := by decide +kernel
theorem dX7_best_1 : decode cX7_best 1 = .ok (.istore_n 1, 1) := by decide +kernel
theorem dX7_best_2 : decode cX7_best 2 = .ok (.iconst 0, 1) := by decide +kernel
theorem dX7_best_3 : decode cX7_best 3 = .ok (.istore_n 2, 1) := by decide +kernel
theorem dX7_best_4 : decode cX7_best 4 = .ok (.iconst 0, 1) := by decide +kernel
theorem dX7_best_5 : decode cX7_best 5 = .ok (.istore_n 3, 1) := by decide +kernel
theorem dX7_best_6 : decode cX7_best 6 = .ok (.iload_n 3, 1) := by decide +kernel
theorem dX7_best_7 : decode cX7_best 7 = .ok (.aload_n 0, 1) := by decide +kernel
theorem dX7_best_8 : decode cX7_best 8 = .ok (.getfield 132, 3) := by decide +kernel
theorem dX7_best_11 : decode cX7_best 11 = .ok (.if_icmp .ge 63, 3) := by decide +kernel
theorem dX7_best_14 : decode cX7_best 14 = .ok (.aload_n 0, 1) := by decide +kernel
theorem dX7_best_15 : decode cX7_best 15 = .ok (.getfield 53, 3) := by decide +kernel
theorem dX7_best_18 : decode cX7_best 18 = .ok (.iload_n 3, 1) := by decide +kernel
theorem dX7_best_19 : decode cX7_best 19 = .ok (.iaload, 1) := by decide +kernel
theorem dX7_best_20 : decode cX7_best 20 = .ok (.iconst 1, 1) := by decide +kernel
theorem dX7_best_21 : decode cX7_best 21 = .ok (.if_icmp .ne 6, 3) := by decide +kernel
theorem dX7_best_24 : decode cX7_best 24 = .ok (.goto 44, 3) := by decide +kernel
theorem dX7_best_27 : decode cX7_best 27 = .ok (.aload_n 0, 1) := by decide +kernel
theorem dX7_best_28 : decode cX7_best 28 = .ok (.getfield 53, 3) := by decide +kernel
theorem dX7_best_31 : decode cX7_best 31 = .ok (.iload_n 3, 1) := by decide +kernel
theorem dX7_best_32 : decode cX7_best 32 = .ok (.iconst 1, 1) := by decide +kernel
theorem dX7_best_33 : decode cX7_best 33 = .ok (.iastore, 1) := by decide +kernel
theorem dX7_best_34 : decode cX7_best 34 = .ok (.aload_n 0, 1) := by decide +kernel
theorem dX7_best_35 : decode cX7_best 35 = .ok (.invokevirtual 236, 3) := by decide +kernel
theorem dX7_best_38 : decode cX7_best 38 = .ok (.aload_n 0, 1) := by decide +kernel
theorem dX7_best_39 : decode cX7_best 39 = .ok (.getfield 53, 3) := by decide +kernel
theorem dX7_best_42 : decode cX7_best 42 = .ok (.iload_n 3, 1) := by decide +kernel
theorem dX7_best_43 : decode cX7_best 43 = .ok (.iconst 0, 1) := by decide +kernel
theorem dX7_best_44 : decode cX7_best 44 = .ok (.iastore, 1) := by decide +kernel
theorem dX7_best_45 : decode cX7_best 45 = .ok (.iload_n 1, 1) := by decide +kernel
theorem dX7_best_46 : decode cX7_best 46 = .ok (.iconst (-1), 1) := by decide +kernel
theorem dX7_best_47 : decode cX7_best 47 = .ok (.if_icmp .eq 14, 3) := by decide +kernel
theorem dX7_best_50 : decode cX7_best 50 = .ok (.aload_n 0, 1) := by decide +kernel
theorem dX7_best_51 : decode cX7_best 51 = .ok (.getfield 227, 3) := by decide +kernel
theorem dX7_best_54 : decode cX7_best 54 = .ok (.iload_n 2, 1) := by decide +kernel
theorem dX7_best_55 : decode cX7_best 55 = .ok (.if_icmp .lt 6, 3) := by decide +kernel
theorem dX7_best_58 : decode cX7_best 58 = .ok (.goto 10, 3) := by decide +kernel
theorem dX7_best_61 : decode cX7_best 61 = .ok (.iload_n 3, 1) := by decide +kernel
theorem dX7_best_62 : decode cX7_best 62 = .ok (.istore_n 1, 1) := by decide +kernel
theorem dX7_best_63 : decode cX7_best 63 = .ok (.aload_n 0, 1) := by decide +kernel
theorem dX7_best_64 : decode cX7_best 64 = .ok (.getfield 227, 3) := by decide +kernel
theorem dX7_best_67 : decode cX7_best 67 = .ok (.istore_n 2, 1) := by decide +kernel
theorem dX7_best_68 : decode cX7_best 68 = .ok (.iinc 3 1, 3) := by decide +kernel
theorem dX7_best_71 : decode cX7_best 71 = .ok (.goto (-65), 3) := by decide +kernel
theorem dX7_best_74 : decode cX7_best 74 = .ok (.iload_n 1, 1) := by decide +kernel
theorem dX7_best_75 : decode cX7_best 75 = .ok (.ireturn, 1) := by decide +kernel
theorem dX7_judge_0 : decode cX7_judge 0 = .ok (.aload_n 0, 1) := by decide +kernel
theorem dX7_judge_1 : decode cX7_judge 1 = .ok (.iload_n 1, 1) := by decide +kernel
theorem dX7_judge_2 : decode cX7_judge 2 = .ok (.invokevirtual 210, 3) := by decide +kernel
theorem dX7_judge_5 : decode cX7_judge 5 = .ok (.istore_n 3, 1) := by decide +kernel
theorem dX7_judge_6 : decode cX7_judge 6 = .ok (.iload_n 3, 1) := by decide +kernel
theorem dX7_judge_7 : decode cX7_judge 7 = .ok (.ifCond .ne 40, 3) := by decide +kernel
theorem dX7_judge_10 : decode cX7_judge 10 = .ok (.iload_n 2, 1) := by decide +kernel
theorem dX7_judge_11 : decode cX7_judge 11 = .ok (.ifCond .ge 8, 3) := by decide +kernel
theorem dX7_judge_14 : decode cX7_judge 14 = .ok (.bipush (-4), 2) := by decide +kernel
theorem dX7_judge_16 : decode cX7_judge 16 = .ok (.goto 30, 3) := by decide +kernel
theorem dX7_judge_19 : decode cX7_judge 19 = .ok (.iload_n 2, 1) := by decide +kernel
theorem dX7_judge_20 : decode cX7_judge 20 = .ok (.aload_n 0, 1) := by decide +kernel
theorem dX7_judge_21 : decode cX7_judge 21 = .ok (.getfield 62, 3) := by decide +kernel
theorem dX7_judge_24 : decode cX7_judge 24 = .ok (.iload_n 1, 1) := by decide +kernel
theorem dX7_judge_25 : decode cX7_judge 25 = .ok (.iaload, 1) := by decide +kernel
theorem dX7_judge_26 : decode cX7_judge 26 = .ok (.if_icmp .le 8, 3) := by decide +kernel
theorem dX7_judge_29 : decode cX7_judge 29 = .ok (.bipush (-5), 2) := by decide +kernel
theorem dX7_judge_31 : decode cX7_judge 31 = .ok (.goto 15, 3) := by decide +kernel
theorem dX7_judge_34 : decode cX7_judge 34 = .ok (.iload_n 2, 1) := by decide +kernel
theorem dX7_judge_35 : decode cX7_judge 35 = .ok (.bipush 40, 2) := by decide +kernel
theorem dX7_judge_37 : decode cX7_judge 37 = .ok (.if_icmp .le 8, 3) := by decide +kernel
theorem dX7_judge_40 : decode cX7_judge 40 = .ok (.bipush (-6), 2) := by decide +kernel
theorem dX7_judge_42 : decode cX7_judge 42 = .ok (.goto 4, 3) := by decide +kernel
theorem dX7_judge_45 : decode cX7_judge 45 = .ok (.iconst 0, 1) := by decide +kernel
theorem dX7_judge_46 : decode cX7_judge 46 = .ok (.istore_n 3, 1) := by decide +kernel
theorem dX7_judge_47 : decode cX7_judge 47 = .ok (.iload_n 3, 1) := by decide +kernel
theorem dX7_judge_48 : decode cX7_judge 48 = .ok (.ifCond .eq 9, 3) := by decide +kernel
theorem dX7_judge_51 : decode cX7_judge 51 = .ok (.aload_n 0, 1) := by decide +kernel
theorem dX7_judge_52 : decode cX7_judge 52 = .ok (.iload_n 3, 1) := by decide +kernel
theorem dX7_judge_53 : decode cX7_judge 53 = .ok (.invokevirtual 164, 3) := by decide +kernel
theorem dX7_judge_56 : decode cX7_judge 56 = .ok (.ireturn, 1) := by decide +kernel
theorem dX7_judge_57 : decode cX7_judge 57 = .ok (.aload_n 0, 1) := by decide +kernel
theorem dX7_judge_58 : decode cX7_judge 58 = .ok (.invokevirtual 236, 3) := by decide +kernel
theorem dX7_judge_61 : decode cX7_judge 61 = .ok (.aload_n 0, 1) := by decide +kernel
theorem dX7_judge_62 : decode cX7_judge 62 = .ok (.invokevirtual 255, 3) := by decide +kernel
theorem dX7_judge_65 : decode cX7_judge 65 = .ok (.iconst 0, 1) := by decide +kernel
theorem dX7_judge_66 : decode cX7_judge 66 = .ok (.istore 4, 2) := by decide +kernel
theorem dX7_judge_68 : decode cX7_judge 68 = .ok (.iload 4, 2) := by decide +kernel
theorem dX7_judge_70 : decode cX7_judge 70 = .ok (.iload_n 2, 1) := by decide +kernel
theorem dX7_judge_71 : decode cX7_judge 71 = .ok (.if_icmp .ge 43, 3) := by decide +kernel
theorem dX7_judge_74 : decode cX7_judge 74 = .ok (.iload 4, 2) := by decide +kernel
theorem dX7_judge_76 : decode cX7_judge 76 = .ok (.aload_n 0, 1) := by decide +kernel
theorem dX7_judge_77 : decode cX7_judge 77 = .ok (.getfield 245, 3) := by decide +kernel
theorem dX7_judge_80 : decode cX7_judge 80 = .ok (.if_icmp .eq 25, 3) := by decide +kernel
theorem dX7_judge_83 : decode cX7_judge 83 = .ok (.aload_n 0, 1) := by decide +kernel
theorem dX7_judge_84 : decode cX7_judge 84 = .ok (.iload_n 1, 1) := by decide +kernel
theorem dX7_judge_85 : decode cX7_judge 85 = .ok (.iload 4, 2) := by decide +kernel
theorem dX7_judge_87 : decode cX7_judge 87 = .ok (.invokevirtual 268, 3) := by decide +kernel
theorem dX7_judge_90 : decode cX7_judge 90 = .ok (.aload_n 0, 1) := by decide +kernel
theorem dX7_judge_91 : decode cX7_judge 91 = .ok (.getfield 99, 3) := by decide +kernel
theorem dX7_judge_94 : decode cX7_judge 94 = .ok (.aload_n 0, 1) := by decide +kernel
theorem dX7_judge_95 : decode cX7_judge 95 = .ok (.getfield 114, 3) := by decide +kernel
theorem dX7_judge_98 : decode cX7_judge 98 = .ok (.iload 4, 2) := by decide +kernel
theorem dX7_judge_100 : decode cX7_judge 100 = .ok (.iaload, 1) := by decide +kernel
theorem dX7_judge_101 : decode cX7_judge 101 = .ok (.iaload, 1) := by decide +kernel
theorem dX7_judge_102 : decode cX7_judge 102 = .ok (.if_icmp .eq 6, 3) := by decide +kernel
theorem dX7_judge_105 : decode cX7_judge 105 = .ok (.iload 4, 2) := by decide +kernel
theorem dX7_judge_107 : decode cX7_judge 107 = .ok (.ireturn, 1) := by decide +kernel
theorem dX7_judge_108 : decode cX7_judge 108 = .ok (.iinc 4 1, 3) := by decide +kernel
theorem dX7_judge_111 : decode cX7_judge 111 = .ok (.goto (-43), 3) := by decide +kernel
theorem dX7_judge_114 : decode cX7_judge 114 = .ok (.iload_n 2, 1) := by decide +kernel
theorem dX7_judge_115 : decode cX7_judge 115 = .ok (.aload_n 0, 1) := by decide +kernel
theorem dX7_judge_116 : decode cX7_judge 116 = .ok (.getfield 245, 3) := by decide +kernel
theorem dX7_judge_119 : decode cX7_judge 119 = .ok (.if_icmp .ge 7, 3) := by decide +kernel
theorem dX7_judge_122 : decode cX7_judge 122 = .ok (.iload_n 2, 1) := by decide +kernel
theorem dX7_judge_123 : decode cX7_judge 123 = .ok (.goto 4, 3) := by decide +kernel
theorem dX7_judge_126 : decode cX7_judge 126 = .ok (.iconst (-1), 1) := by decide +kernel
theorem dX7_judge_127 : decode cX7_judge 127 = .ok (.ireturn, 1) := by decide +kernel
theorem dX7_mornings_0 : decode cX7_mornings 0 = .ok (.aload_n 0, 1) := by decide +kernel
theorem dX7_mornings_1 : decode cX7_mornings 1 = .ok (.iload_n 1, 1) := by decide +kernel
theorem dX7_mornings_2 : decode cX7_mornings 2 = .ok (.iconst 1, 1) := by decide +kernel
theorem dX7_mornings_3 : decode cX7_mornings 3 = .ok (.bipush 60, 2) := by decide +kernel
theorem dX7_mornings_5 : decode cX7_mornings 5 = .ok (.invokevirtual 149, 3) := by decide +kernel
theorem dX7_mornings_8 : decode cX7_mornings 8 = .ok (.ifCond .ne 10, 3) := by decide +kernel
theorem dX7_mornings_11 : decode cX7_mornings 11 = .ok (.aload_n 0, 1) := by decide +kernel
theorem dX7_mornings_12 : decode cX7_mornings 12 = .ok (.bipush (-6), 2) := by decide +kernel
theorem dX7_mornings_14 : decode cX7_mornings 14 = .ok (.invokevirtual 139, 3) := by decide +kernel
theorem dX7_mornings_17 : decode cX7_mornings 17 = .ok (.ireturn, 1) := by decide +kernel
theorem dX7_mornings_18 : decode cX7_mornings 18 = .ok (.iconst 0, 1) := by decide +kernel
theorem dX7_mornings_19 : decode cX7_mornings 19 = .ok (.istore_n 2, 1) := by decide +kernel
theorem dX7_mornings_20 : decode cX7_mornings 20 = .ok (.iconst 0, 1) := by decide +kernel
theorem dX7_mornings_21 : decode cX7_mornings 21 = .ok (.istore_n 3, 1) := by decide +kernel
theorem dX7_mornings_22 : decode cX7_mornings 22 = .ok (.iload_n 3, 1) := by decide +kernel
theorem dX7_mornings_23 : decode cX7_mornings 23 = .ok (.iload_n 1, 1) := by decide +kernel
theorem dX7_mornings_24 : decode cX7_mornings 24 = .ok (.if_icmp .ge 20, 3) := by decide +kernel
theorem dX7_mornings_27 : decode cX7_mornings 27 = .ok (.aload_n 0, 1) := by decide +kernel
theorem dX7_mornings_28 : decode cX7_mornings 28 = .ok (.invokevirtual 242, 3) := by decide +kernel
theorem dX7_mornings_31 : decode cX7_mornings 31 = .ok (.iload_n 2, 1) := by decide +kernel
theorem dX7_mornings_32 : decode cX7_mornings 32 = .ok (.aload_n 0, 1) := by decide +kernel
theorem dX7_mornings_33 : decode cX7_mornings 33 = .ok (.getfield 227, 3) := by decide +kernel
theorem dX7_mornings_36 : decode cX7_mornings 36 = .ok (.iadd, 1) := by decide +kernel
theorem dX7_mornings_37 : decode cX7_mornings 37 = .ok (.istore_n 2, 1) := by decide +kernel
theorem dX7_mornings_38 : decode cX7_mornings 38 = .ok (.iinc 3 1, 3) := by decide +kernel
theorem dX7_mornings_41 : decode cX7_mornings 41 = .ok (.goto (-19), 3) := by decide +kernel
theorem dX7_mornings_44 : decode cX7_mornings 44 = .ok (.iload_n 2, 1) := by decide +kernel
theorem dX7_mornings_45 : decode cX7_mornings 45 = .ok (.ireturn, 1) := by decide +kernel
theorem dX7_draw_0 : decode cX7_draw 0 = .ok (.aload_n 0, 1) := by decide +kernel
theorem dX7_draw_1 : decode cX7_draw 1 = .ok (.aload_n 0, 1) := by decide +kernel
theorem dX7_draw_2 : decode cX7_draw 2 = .ok (.getfield 7, 3) := by decide +kernel
theorem dX7_draw_5 : decode cX7_draw 5 = .ok (.ldc_w 271, 3) := by decide +kernel
theorem dX7_draw_8 : decode cX7_draw 8 = .ok (.imul, 1) := by decide +kernel
theorem dX7_draw_9 : decode cX7_draw 9 = .ok (.sipush 12345, 3) := by decide +kernel
theorem dX7_draw_12 : decode cX7_draw 12 = .ok (.iadd, 1) := by decide +kernel
theorem dX7_draw_13 : decode cX7_draw 13 = .ok (.putfield 7, 3) := by decide +kernel
theorem dX7_draw_16 : decode cX7_draw 16 = .ok (.aload_n 0, 1) := by decide +kernel
theorem dX7_draw_17 : decode cX7_draw 17 = .ok (.getfield 7, 3) := by decide +kernel
theorem dX7_draw_20 : decode cX7_draw 20 = .ok (.bipush 16, 2) := by decide +kernel
theorem dX7_draw_22 : decode cX7_draw 22 = .ok (.iushr, 1) := by decide +kernel
theorem dX7_draw_23 : decode cX7_draw 23 = .ok (.iload_n 1, 1) := by decide +kernel
theorem dX7_draw_24 : decode cX7_draw 24 = .ok (.irem, 1) := by decide +kernel
theorem dX7_draw_25 : decode cX7_draw 25 = .ok (.ireturn, 1) := by decide +kernel
theorem dX7_winters_0 : decode cX7_winters 0 = .ok (.aload_n 0, 1) := by decide +kernel
theorem dX7_winters_1 : decode cX7_winters 1 = .ok (.iload_n 1, 1) := by decide +kernel
theorem dX7_winters_2 : decode cX7_winters 2 = .ok (.iconst 1, 1) := by decide +kernel
theorem dX7_winters_3 : decode cX7_winters 3 = .ok (.bipush 60, 2) := by decide +kernel
theorem dX7_winters_5 : decode cX7_winters 5 = .ok (.invokevirtual 149, 3) := by decide +kernel
theorem dX7_winters_8 : decode cX7_winters 8 = .ok (.ifCond .ne 10, 3) := by decide +kernel
theorem dX7_winters_11 : decode cX7_winters 11 = .ok (.aload_n 0, 1) := by decide +kernel
theorem dX7_winters_12 : decode cX7_winters 12 = .ok (.bipush (-6), 2) := by decide +kernel
theorem dX7_winters_14 : decode cX7_winters 14 = .ok (.invokevirtual 139, 3) := by decide +kernel
theorem dX7_winters_17 : decode cX7_winters 17 = .ok (.ireturn, 1) := by decide +kernel
theorem dX7_winters_18 : decode cX7_winters 18 = .ok (.iconst 0, 1) := by decide +kernel
theorem dX7_winters_19 : decode cX7_winters 19 = .ok (.istore_n 2, 1) := by decide +kernel
theorem dX7_winters_20 : decode cX7_winters 20 = .ok (.iconst 0, 1) := by decide +kernel
theorem dX7_winters_21 : decode cX7_winters 21 = .ok (.istore_n 3, 1) := by decide +kernel
theorem dX7_winters_22 : decode cX7_winters 22 = .ok (.iload_n 3, 1) := by decide +kernel
theorem dX7_winters_23 : decode cX7_winters 23 = .ok (.iload_n 1, 1) := by decide +kernel
theorem dX7_winters_24 : decode cX7_winters 24 = .ok (.if_icmp .ge 69, 3) := by decide +kernel
theorem dX7_winters_27 : decode cX7_winters 27 = .ok (.iconst 0, 1) := by decide +kernel
theorem dX7_winters_28 : decode cX7_winters 28 = .ok (.istore 4, 2) := by decide +kernel
theorem dX7_winters_30 : decode cX7_winters 30 = .ok (.iload 4, 2) := by decide +kernel
theorem dX7_winters_32 : decode cX7_winters 32 = .ok (.aload_n 0, 1) := by decide +kernel
theorem dX7_winters_33 : decode cX7_winters 33 = .ok (.getfield 129, 3) := by decide +kernel
theorem dX7_winters_36 : decode cX7_winters 36 = .ok (.if_icmp .ge 40, 3) := by decide +kernel
theorem dX7_winters_39 : decode cX7_winters 39 = .ok (.aload_n 0, 1) := by decide +kernel
theorem dX7_winters_40 : decode cX7_winters 40 = .ok (.getfield 38, 3) := by decide +kernel
theorem dX7_winters_43 : decode cX7_winters 43 = .ok (.iload 4, 2) := by decide +kernel
theorem dX7_winters_45 : decode cX7_winters 45 = .ok (.aload_n 0, 1) := by decide +kernel
theorem dX7_winters_46 : decode cX7_winters 46 = .ok (.bipush 10, 2) := by decide +kernel
theorem dX7_winters_48 : decode cX7_winters 48 = .ok (.invokevirtual 272, 3) := by decide +kernel
theorem dX7_winters_51 : decode cX7_winters 51 = .ok (.aload_n 0, 1) := by decide +kernel
theorem dX7_winters_52 : decode cX7_winters 52 = .ok (.getfield 32, 3) := by decide +kernel
theorem dX7_winters_55 : decode cX7_winters 55 = .ok (.iload 4, 2) := by decide +kernel
theorem dX7_winters_57 : decode cX7_winters 57 = .ok (.iaload, 1) := by decide +kernel
theorem dX7_winters_58 : decode cX7_winters 58 = .ok (.bipush 10, 2) := by decide +kernel
theorem dX7_winters_60 : decode cX7_winters 60 = .ok (.idiv, 1) := by decide +kernel
theorem dX7_winters_61 : decode cX7_winters 61 = .ok (.if_icmp .ge 7, 3) := by decide +kernel
theorem dX7_winters_64 : decode cX7_winters 64 = .ok (.iconst 1, 1) := by decide +kernel
theorem dX7_winters_65 : decode cX7_winters 65 = .ok (.goto 4, 3) := by decide +kernel
theorem dX7_winters_68 : decode cX7_winters 68 = .ok (.iconst 0, 1) := by decide +kernel
theorem dX7_winters_69 : decode cX7_winters 69 = .ok (.iastore, 1) := by decide +kernel
theorem dX7_winters_70 : decode cX7_winters 70 = .ok (.iinc 4 1, 3) := by decide +kernel
theorem dX7_winters_73 : decode cX7_winters 73 = .ok (.goto (-43), 3) := by decide +kernel
theorem dX7_winters_76 : decode cX7_winters 76 = .ok (.aload_n 0, 1) := by decide +kernel
theorem dX7_winters_77 : decode cX7_winters 77 = .ok (.invokevirtual 242, 3) := by decide +kernel
theorem dX7_winters_80 : decode cX7_winters 80 = .ok (.iload_n 2, 1) := by decide +kernel
theorem dX7_winters_81 : decode cX7_winters 81 = .ok (.aload_n 0, 1) := by decide +kernel
theorem dX7_winters_82 : decode cX7_winters 82 = .ok (.getfield 227, 3) := by decide +kernel
theorem dX7_winters_85 : decode cX7_winters 85 = .ok (.iadd, 1) := by decide +kernel
theorem dX7_winters_86 : decode cX7_winters 86 = .ok (.istore_n 2, 1) := by decide +kernel
theorem dX7_winters_87 : decode cX7_winters 87 = .ok (.iinc 3 1, 3) := by decide +kernel
theorem dX7_winters_90 : decode cX7_winters 90 = .ok (.goto (-68), 3) := by decide +kernel
theorem dX7_winters_93 : decode cX7_winters 93 = .ok (.iload_n 2, 1) := by decide +kernel
theorem dX7_winters_94 : decode cX7_winters 94 = .ok (.ireturn, 1) := by decide +kernel
theorem dX7_seed_0 : decode cX7_seed 0 = .ok (.aload_n 0, 1) := by decide +kernel
theorem dX7_seed_1 : decode cX7_seed 1 = .ok (.getfield 7, 3) := by decide +kernel
theorem dX7_seed_4 : decode cX7_seed 4 = .ok (.istore_n 2, 1) := by decide +kernel
theorem dX7_seed_5 : decode cX7_seed 5 = .ok (.aload_n 0, 1) := by decide +kernel
theorem dX7_seed_6 : decode cX7_seed 6 = .ok (.iload_n 1, 1) := by decide +kernel
theorem dX7_seed_7 : decode cX7_seed 7 = .ok (.putfield 7, 3) := by decide +kernel
theorem dX7_seed_10 : decode cX7_seed 10 = .ok (.iload_n 2, 1) := by decide +kernel
theorem dX7_seed_11 : decode cX7_seed 11 = .ok (.ireturn, 1) := by decide +kernel
theorem dX7_body_0 : decode cX7_body 0 = .ok (.aload_n 0, 1) := by decide +kernel
theorem dX7_body_1 : decode cX7_body 1 = .ok (.getfield 275, 3) := by decide +kernel
theorem dX7_body_4 : decode cX7_body 4 = .ok (.bipush 20, 2) := by decide +kernel
theorem dX7_body_6 : decode cX7_body 6 = .ok (.if_icmp .ge 13, 3) := by decide +kernel
theorem dX7_body_9 : decode cX7_body 9 = .ok (.aload_n 0, 1) := by decide +kernel
theorem dX7_body_10 : decode cX7_body 10 = .ok (.getfield 126, 3) := by decide +kernel
theorem dX7_body_13 : decode cX7_body 13 = .ok (.aload_n 0, 1) := by decide +kernel
theorem dX7_body_14 : decode cX7_body 14 = .ok (.getfield 275, 3) := by decide +kernel
theorem dX7_body_17 : decode cX7_body 17 = .ok (.iload_n 1, 1) := by decide +kernel
theorem dX7_body_18 : decode cX7_body 18 = .ok (.iastore, 1) := by decide +kernel
theorem dX7_body_19 : decode cX7_body 19 = .ok (.aload_n 0, 1) := by decide +kernel
theorem dX7_body_20 : decode cX7_body 20 = .ok (.dup, 1) := by decide +kernel
theorem dX7_body_21 : decode cX7_body 21 = .ok (.getfield 275, 3) := by decide +kernel
theorem dX7_body_24 : decode cX7_body 24 = .ok (.iconst 1, 1) := by decide +kernel
theorem dX7_body_25 : decode cX7_body 25 = .ok (.iadd, 1) := by decide +kernel
theorem dX7_body_26 : decode cX7_body 26 = .ok (.putfield 275, 3) := by decide +kernel
theorem dX7_body_29 : decode cX7_body 29 = .ok (.return_, 1) := by decide +kernel
theorem dX7_looking_0 : decode cX7_looking 0 = .ok (.aload_n 0, 1) := by decide +kernel
theorem dX7_looking_1 : decode cX7_looking 1 = .ok (.getfield 20, 3) := by decide +kernel
theorem dX7_looking_4 : decode cX7_looking 4 = .ok (.iload_n 1, 1) := by decide +kernel
theorem dX7_looking_5 : decode cX7_looking 5 = .ok (.iaload, 1) := by decide +kernel
theorem dX7_looking_6 : decode cX7_looking 6 = .ok (.istore_n 3, 1) := by decide +kernel
theorem dX7_looking_7 : decode cX7_looking 7 = .ok (.iload_n 2, 1) := by decide +kernel
theorem dX7_looking_8 : decode cX7_looking 8 = .ok (.istore 4, 2) := by decide +kernel
theorem dX7_looking_10 : decode cX7_looking 10 = .ok (.iload_n 3, 1) := by decide +kernel
theorem dX7_looking_11 : decode cX7_looking 11 = .ok (.iconst 3, 1) := by decide +kernel
theorem dX7_looking_12 : decode cX7_looking 12 = .ok (.if_icmp .eq 9, 3) := by decide +kernel
theorem dX7_looking_15 : decode cX7_looking 15 = .ok (.iload_n 3, 1) := by decide +kernel
theorem dX7_looking_16 : decode cX7_looking 16 = .ok (.bipush 6, 2) := by decide +kernel
theorem dX7_looking_18 : decode cX7_looking 18 = .ok (.if_icmp .ne 7, 3) := by decide +kernel
theorem dX7_looking_21 : decode cX7_looking 21 = .ok (.iconst 1, 1) := by decide +kernel
theorem dX7_looking_22 : decode cX7_looking 22 = .ok (.goto 4, 3) := by decide +kernel
theorem dX7_looking_25 : decode cX7_looking 25 = .ok (.iconst 0, 1) := by decide +kernel
theorem dX7_looking_26 : decode cX7_looking 26 = .ok (.istore 5, 2) := by decide +kernel
theorem dX7_looking_28 : decode cX7_looking 28 = .ok (.iload 5, 2) := by decide +kernel
theorem dX7_looking_30 : decode cX7_looking 30 = .ok (.ifCond .ne 8, 3) := by decide +kernel
theorem dX7_looking_33 : decode cX7_looking 33 = .ok (.iload_n 3, 1) := by decide +kernel
theorem dX7_looking_34 : decode cX7_looking 34 = .ok (.iconst 2, 1) := by decide +kernel
theorem dX7_looking_35 : decode cX7_looking 35 = .ok (.if_icmp .ne 7, 3) := by decide +kernel
theorem dX7_looking_38 : decode cX7_looking 38 = .ok (.iconst 1, 1) := by decide +kernel
theorem dX7_looking_39 : decode cX7_looking 39 = .ok (.goto 4, 3) := by decide +kernel
theorem dX7_looking_42 : decode cX7_looking 42 = .ok (.iconst 0, 1) := by decide +kernel
theorem dX7_looking_43 : decode cX7_looking 43 = .ok (.istore 6, 2) := by decide +kernel
theorem dX7_looking_45 : decode cX7_looking 45 = .ok (.iload_n 3, 1) := by decide +kernel
theorem dX7_looking_46 : decode cX7_looking 46 = .ok (.iconst 4, 1) := by decide +kernel
theorem dX7_looking_47 : decode cX7_looking 47 = .ok (.if_icmp .eq 8, 3) := by decide +kernel
theorem dX7_looking_50 : decode cX7_looking 50 = .ok (.iload_n 3, 1) := by decide +kernel
theorem dX7_looking_51 : decode cX7_looking 51 = .ok (.iconst 5, 1) := by decide +kernel
theorem dX7_looking_52 : decode cX7_looking 52 = .ok (.if_icmp .ne 7, 3) := by decide +kernel
theorem dX7_looking_55 : decode cX7_looking 55 = .ok (.iconst 1, 1) := by decide +kernel
theorem dX7_looking_56 : decode cX7_looking 56 = .ok (.goto 4, 3) := by decide +kernel
theorem dX7_looking_59 : decode cX7_looking 59 = .ok (.iconst 0, 1) := by decide +kernel
theorem dX7_looking_60 : decode cX7_looking 60 = .ok (.istore 7, 2) := by decide +kernel
theorem dX7_looking_62 : decode cX7_looking 62 = .ok (.iload_n 3, 1) := by decide +kernel
theorem dX7_looking_63 : decode cX7_looking 63 = .ok (.bipush 6, 2) := by decide +kernel
theorem dX7_looking_65 : decode cX7_looking 65 = .ok (.if_icmp .ne 9, 3) := by decide +kernel
theorem dX7_looking_68 : decode cX7_looking 68 = .ok (.aload_n 0, 1) := by decide +kernel
theorem dX7_looking_69 : decode cX7_looking 69 = .ok (.bipush 70, 2) := by decide +kernel
theorem dX7_looking_71 : decode cX7_looking 71 = .ok (.invokevirtual 278, 3) := by decide +kernel
theorem dX7_looking_74 : decode cX7_looking 74 = .ok (.iload 5, 2) := by decide +kernel
theorem dX7_looking_76 : decode cX7_looking 76 = .ok (.ifCond .eq 14, 3) := by decide +kernel
theorem dX7_looking_79 : decode cX7_looking 79 = .ok (.aload_n 0, 1) := by decide +kernel
theorem dX7_looking_80 : decode cX7_looking 80 = .ok (.bipush 40, 2) := by decide +kernel
theorem dX7_looking_82 : decode cX7_looking 82 = .ok (.invokevirtual 278, 3) := by decide +kernel
theorem dX7_looking_85 : decode cX7_looking 85 = .ok (.iload_n 2, 1) := by decide +kernel
theorem dX7_looking_86 : decode cX7_looking 86 = .ok (.iconst 1, 1) := by decide +kernel
theorem dX7_looking_87 : decode cX7_looking 87 = .ok (.iadd, 1) := by decide +kernel
theorem dX7_looking_88 : decode cX7_looking 88 = .ok (.istore 4, 2) := by decide +kernel
theorem dX7_looking_90 : decode cX7_looking 90 = .ok (.iload 6, 2) := by decide +kernel
theorem dX7_looking_92 : decode cX7_looking 92 = .ok (.ifCond .eq 9, 3) := by decide +kernel
theorem dX7_looking_95 : decode cX7_looking 95 = .ok (.aload_n 0, 1) := by decide +kernel
theorem dX7_looking_96 : decode cX7_looking 96 = .ok (.bipush 30, 2) := by decide +kernel
theorem dX7_looking_98 : decode cX7_looking 98 = .ok (.invokevirtual 278, 3) := by decide +kernel
theorem dX7_looking_101 : decode cX7_looking 101 = .ok (.iload 7, 2) := by decide +kernel
theorem dX7_looking_103 : decode cX7_looking 103 = .ok (.ifCond .eq 9, 3) := by decide +kernel
theorem dX7_looking_106 : decode cX7_looking 106 = .ok (.aload_n 0, 1) := by decide +kernel
theorem dX7_looking_107 : decode cX7_looking 107 = .ok (.bipush 51, 2) := by decide +kernel
theorem dX7_looking_109 : decode cX7_looking 109 = .ok (.invokevirtual 278, 3) := by decide +kernel
theorem dX7_looking_112 : decode cX7_looking 112 = .ok (.aload_n 0, 1) := by decide +kernel
theorem dX7_looking_113 : decode cX7_looking 113 = .ok (.bipush 10, 2) := by decide +kernel
theorem dX7_looking_115 : decode cX7_looking 115 = .ok (.invokevirtual 278, 3) := by decide +kernel
theorem dX7_looking_118 : decode cX7_looking 118 = .ok (.iload 4, 2) := by decide +kernel
theorem dX7_looking_120 : decode cX7_looking 120 = .ok (.iload_n 1, 1) := by decide +kernel
theorem dX7_looking_121 : decode cX7_looking 121 = .ok (.iadd, 1) := by decide +kernel
theorem dX7_looking_122 : decode cX7_looking 122 = .ok (.istore 8, 2) := by decide +kernel
theorem dX7_looking_124 : decode cX7_looking 124 = .ok (.iload 6, 2) := by decide +kernel
theorem dX7_looking_126 : decode cX7_looking 126 = .ok (.ifCond .eq 9, 3) := by decide +kernel
theorem dX7_looking_129 : decode cX7_looking 129 = .ok (.iload 8, 2) := by decide +kernel
theorem dX7_looking_131 : decode cX7_looking 131 = .ok (.iconst 3, 1) := by decide +kernel
theorem dX7_looking_132 : decode cX7_looking 132 = .ok (.imul, 1) := by decide +kernel
theorem dX7_looking_133 : decode cX7_looking 133 = .ok (.istore 8, 2) := by decide +kernel
theorem dX7_looking_135 : decode cX7_looking 135 = .ok (.iload 7, 2) := by decide +kernel
theorem dX7_looking_137 : decode cX7_looking 137 = .ok (.ifCond .eq 9, 3) := by decide +kernel
theorem dX7_looking_140 : decode cX7_looking 140 = .ok (.iload 8, 2) := by decide +kernel
theorem dX7_looking_142 : decode cX7_looking 142 = .ok (.iload_n 1, 1) := by decide +kernel
theorem dX7_looking_143 : decode cX7_looking 143 = .ok (.isub, 1) := by decide +kernel
theorem dX7_looking_144 : decode cX7_looking 144 = .ok (.istore 8, 2) := by decide +kernel
theorem dX7_looking_146 : decode cX7_looking 146 = .ok (.iload_n 3, 1) := by decide +kernel
theorem dX7_looking_147 : decode cX7_looking 147 = .ok (.bipush 6, 2) := by decide +kernel
theorem dX7_looking_149 : decode cX7_looking 149 = .ok (.if_icmp .ne 10, 3) := by decide +kernel
theorem dX7_looking_152 : decode cX7_looking 152 = .ok (.iload 8, 2) := by decide +kernel
theorem dX7_looking_154 : decode cX7_looking 154 = .ok (.iconst 2, 1) := by decide +kernel
theorem dX7_looking_155 : decode cX7_looking 155 = .ok (.imul, 1) := by decide +kernel
theorem dX7_looking_156 : decode cX7_looking 156 = .ok (.goto 5, 3) := by decide +kernel
theorem dX7_looking_159 : decode cX7_looking 159 = .ok (.iload 8, 2) := by decide +kernel
theorem dX7_looking_161 : decode cX7_looking 161 = .ok (.ireturn, 1) := by decide +kernel
theorem dX7_giving_0 : decode cX7_giving 0 = .ok (.iload_n 2, 1) := by decide +kernel
theorem dX7_giving_1 : decode cX7_giving 1 = .ok (.istore_n 3, 1) := by decide +kernel
theorem dX7_giving_2 : decode cX7_giving 2 = .ok (.aload_n 0, 1) := by decide +kernel
theorem dX7_giving_3 : decode cX7_giving 3 = .ok (.getfield 20, 3) := by decide +kernel
theorem dX7_giving_6 : decode cX7_giving 6 = .ok (.iload_n 1, 1) := by decide +kernel
theorem dX7_giving_7 : decode cX7_giving 7 = .ok (.iaload, 1) := by decide +kernel
theorem dX7_giving_8 : decode cX7_giving 8 = .ok (.bipush 6, 2) := by decide +kernel
theorem dX7_giving_10 : decode cX7_giving 10 = .ok (.if_icmp .ne 18, 3) := by decide +kernel
theorem dX7_giving_13 : decode cX7_giving 13 = .ok (.aload_n 0, 1) := by decide +kernel
theorem dX7_giving_14 : decode cX7_giving 14 = .ok (.bipush 71, 2) := by decide +kernel
theorem dX7_giving_16 : decode cX7_giving 16 = .ok (.invokevirtual 278, 3) := by decide +kernel
theorem dX7_giving_19 : decode cX7_giving 19 = .ok (.iload_n 2, 1) := by decide +kernel
theorem dX7_giving_20 : decode cX7_giving 20 = .ok (.aload_n 0, 1) := by decide +kernel
theorem dX7_giving_21 : decode cX7_giving 21 = .ok (.getfield 23, 3) := by decide +kernel
theorem dX7_giving_24 : decode cX7_giving 24 = .ok (.iload_n 1, 1) := by decide +kernel
theorem dX7_giving_25 : decode cX7_giving 25 = .ok (.iaload, 1) := by decide +kernel
theorem dX7_giving_26 : decode cX7_giving 26 = .ok (.isub, 1) := by decide +kernel
theorem dX7_giving_27 : decode cX7_giving 27 = .ok (.istore_n 3, 1) := by decide +kernel
theorem dX7_giving_28 : decode cX7_giving 28 = .ok (.aload_n 0, 1) := by decide +kernel
theorem dX7_giving_29 : decode cX7_giving 29 = .ok (.getfield 20, 3) := by decide +kernel
theorem dX7_giving_32 : decode cX7_giving 32 = .ok (.iload_n 1, 1) := by decide +kernel
theorem dX7_giving_33 : decode cX7_giving 33 = .ok (.iaload, 1) := by decide +kernel
theorem dX7_giving_34 : decode cX7_giving 34 = .ok (.iconst 1, 1) := by decide +kernel
theorem dX7_giving_35 : decode cX7_giving 35 = .ok (.if_icmp .ne 9, 3) := by decide +kernel
theorem dX7_giving_38 : decode cX7_giving 38 = .ok (.aload_n 0, 1) := by decide +kernel
theorem dX7_giving_39 : decode cX7_giving 39 = .ok (.bipush 20, 2) := by decide +kernel
theorem dX7_giving_41 : decode cX7_giving 41 = .ok (.invokevirtual 278, 3) := by decide +kernel
theorem dX7_giving_44 : decode cX7_giving 44 = .ok (.aload_n 0, 1) := by decide +kernel
theorem dX7_giving_45 : decode cX7_giving 45 = .ok (.bipush 11, 2) := by decide +kernel
theorem dX7_giving_47 : decode cX7_giving 47 = .ok (.invokevirtual 278, 3) := by decide +kernel
theorem dX7_giving_50 : decode cX7_giving 50 = .ok (.aload_n 0, 1) := by decide +kernel
theorem dX7_giving_51 : decode cX7_giving 51 = .ok (.iload_n 1, 1) := by decide +kernel
theorem dX7_giving_52 : decode cX7_giving 52 = .ok (.iload_n 3, 1) := by decide +kernel
theorem dX7_giving_53 : decode cX7_giving 53 = .ok (.invokevirtual 281, 3) := by decide +kernel
theorem dX7_giving_56 : decode cX7_giving 56 = .ok (.iconst 2, 1) := by decide +kernel
theorem dX7_giving_57 : decode cX7_giving 57 = .ok (.imul, 1) := by decide +kernel
theorem dX7_giving_58 : decode cX7_giving 58 = .ok (.istore 4, 2) := by decide +kernel
theorem dX7_giving_60 : decode cX7_giving 60 = .ok (.aload_n 0, 1) := by decide +kernel
theorem dX7_giving_61 : decode cX7_giving 61 = .ok (.getfield 20, 3) := by decide +kernel
theorem dX7_giving_64 : decode cX7_giving 64 = .ok (.iload_n 1, 1) := by decide +kernel
theorem dX7_giving_65 : decode cX7_giving 65 = .ok (.iaload, 1) := by decide +kernel
theorem dX7_giving_66 : decode cX7_giving 66 = .ok (.iconst 1, 1) := by decide +kernel
theorem dX7_giving_67 : decode cX7_giving 67 = .ok (.if_icmp .ne 15, 3) := by decide +kernel
theorem dX7_giving_70 : decode cX7_giving 70 = .ok (.iload 4, 2) := by decide +kernel
theorem dX7_giving_72 : decode cX7_giving 72 = .ok (.aload_n 0, 1) := by decide +kernel
theorem dX7_giving_73 : decode cX7_giving 73 = .ok (.getfield 23, 3) := by decide +kernel
theorem dX7_giving_76 : decode cX7_giving 76 = .ok (.iload_n 1, 1) := by decide +kernel
theorem dX7_giving_77 : decode cX7_giving 77 = .ok (.iaload, 1) := by decide +kernel
theorem dX7_giving_78 : decode cX7_giving 78 = .ok (.iadd, 1) := by decide +kernel
theorem dX7_giving_79 : decode cX7_giving 79 = .ok (.goto 5, 3) := by decide +kernel
theorem dX7_giving_82 : decode cX7_giving 82 = .ok (.iload 4, 2) := by decide +kernel
theorem dX7_giving_84 : decode cX7_giving 84 = .ok (.ireturn, 1) := by decide +kernel
theorem dX7_shutting_0 : decode cX7_shutting 0 = .ok (.aload_n 0, 1) := by decide +kernel
theorem dX7_shutting_1 : decode cX7_shutting 1 = .ok (.getfield 20, 3) := by decide +kernel
theorem dX7_shutting_4 : decode cX7_shutting 4 = .ok (.iload_n 1, 1) := by decide +kernel
theorem dX7_shutting_5 : decode cX7_shutting 5 = .ok (.iaload, 1) := by decide +kernel
theorem dX7_shutting_6 : decode cX7_shutting 6 = .ok (.istore_n 3, 1) := by decide +kernel
theorem dX7_shutting_7 : decode cX7_shutting 7 = .ok (.iload_n 3, 1) := by decide +kernel
theorem dX7_shutting_8 : decode cX7_shutting 8 = .ok (.iconst 5, 1) := by decide +kernel
theorem dX7_shutting_9 : decode cX7_shutting 9 = .ok (.if_icmp .ne 9, 3) := by decide +kernel
theorem dX7_shutting_12 : decode cX7_shutting 12 = .ok (.aload_n 0, 1) := by decide +kernel
theorem dX7_shutting_13 : decode cX7_shutting 13 = .ok (.bipush 60, 2) := by decide +kernel
theorem dX7_shutting_15 : decode cX7_shutting 15 = .ok (.invokevirtual 278, 3) := by decide +kernel
theorem dX7_shutting_18 : decode cX7_shutting 18 = .ok (.iload_n 3, 1) := by decide +kernel
theorem dX7_shutting_19 : decode cX7_shutting 19 = .ok (.iconst 4, 1) := by decide +kernel
theorem dX7_shutting_20 : decode cX7_shutting 20 = .ok (.if_icmp .eq 8, 3) := by decide +kernel
theorem dX7_shutting_23 : decode cX7_shutting 23 = .ok (.iload_n 3, 1) := by decide +kernel
theorem dX7_shutting_24 : decode cX7_shutting 24 = .ok (.iconst 5, 1) := by decide +kernel
theorem dX7_shutting_25 : decode cX7_shutting 25 = .ok (.if_icmp .ne 9, 3) := by decide +kernel
theorem dX7_shutting_28 : decode cX7_shutting 28 = .ok (.aload_n 0, 1) := by decide +kernel
theorem dX7_shutting_29 : decode cX7_shutting 29 = .ok (.bipush 50, 2) := by decide +kernel
theorem dX7_shutting_31 : decode cX7_shutting 31 = .ok (.invokevirtual 278, 3) := by decide +kernel
theorem dX7_shutting_34 : decode cX7_shutting 34 = .ok (.aload_n 0, 1) := by decide +kernel
theorem dX7_shutting_35 : decode cX7_shutting 35 = .ok (.bipush 12, 2) := by decide +kernel
theorem dX7_shutting_37 : decode cX7_shutting 37 = .ok (.invokevirtual 278, 3) := by decide +kernel
theorem dX7_shutting_40 : decode cX7_shutting 40 = .ok (.aload_n 0, 1) := by decide +kernel
theorem dX7_shutting_41 : decode cX7_shutting 41 = .ok (.iload_n 1, 1) := by decide +kernel
theorem dX7_shutting_42 : decode cX7_shutting 42 = .ok (.iload_n 2, 1) := by decide +kernel
theorem dX7_shutting_43 : decode cX7_shutting 43 = .ok (.invokevirtual 284, 3) := by decide +kernel
theorem dX7_shutting_46 : decode cX7_shutting 46 = .ok (.istore 4, 2) := by decide +kernel
theorem dX7_shutting_48 : decode cX7_shutting 48 = .ok (.iload 4, 2) := by decide +kernel
theorem dX7_shutting_50 : decode cX7_shutting 50 = .ok (.aload_n 0, 1) := by decide +kernel
theorem dX7_shutting_51 : decode cX7_shutting 51 = .ok (.iload_n 1, 1) := by decide +kernel
theorem dX7_shutting_52 : decode cX7_shutting 52 = .ok (.iload_n 2, 1) := by decide +kernel
theorem dX7_shutting_53 : decode cX7_shutting 53 = .ok (.aload_n 0, 1) := by decide +kernel
theorem dX7_shutting_54 : decode cX7_shutting 54 = .ok (.getfield 23, 3) := by decide +kernel
theorem dX7_shutting_57 : decode cX7_shutting 57 = .ok (.iload_n 1, 1) := by decide +kernel
theorem dX7_shutting_58 : decode cX7_shutting 58 = .ok (.iaload, 1) := by decide +kernel
theorem dX7_shutting_59 : decode cX7_shutting 59 = .ok (.isub, 1) := by decide +kernel
theorem dX7_shutting_60 : decode cX7_shutting 60 = .ok (.invokevirtual 281, 3) := by decide +kernel
theorem dX7_shutting_63 : decode cX7_shutting 63 = .ok (.ixor, 1) := by decide +kernel
theorem dX7_shutting_64 : decode cX7_shutting 64 = .ok (.istore 4, 2) := by decide +kernel
theorem dX7_shutting_66 : decode cX7_shutting 66 = .ok (.iload_n 3, 1) := by decide +kernel
theorem dX7_shutting_67 : decode cX7_shutting 67 = .ok (.iconst 4, 1) := by decide +kernel
theorem dX7_shutting_68 : decode cX7_shutting 68 = .ok (.if_icmp .eq 8, 3) := by decide +kernel
theorem dX7_shutting_71 : decode cX7_shutting 71 = .ok (.iload_n 3, 1) := by decide +kernel
theorem dX7_shutting_72 : decode cX7_shutting 72 = .ok (.iconst 5, 1) := by decide +kernel
theorem dX7_shutting_73 : decode cX7_shutting 73 = .ok (.if_icmp .ne 8, 3) := by decide +kernel
theorem dX7_shutting_76 : decode cX7_shutting 76 = .ok (.iload 4, 2) := by decide +kernel
theorem dX7_shutting_78 : decode cX7_shutting 78 = .ok (.ineg, 1) := by decide +kernel
theorem dX7_shutting_79 : decode cX7_shutting 79 = .ok (.istore 4, 2) := by decide +kernel
theorem dX7_shutting_81 : decode cX7_shutting 81 = .ok (.iload_n 3, 1) := by decide +kernel
theorem dX7_shutting_82 : decode cX7_shutting 82 = .ok (.iconst 5, 1) := by decide +kernel
theorem dX7_shutting_83 : decode cX7_shutting 83 = .ok (.if_icmp .ne 10, 3) := by decide +kernel
theorem dX7_shutting_86 : decode cX7_shutting 86 = .ok (.iload 4, 2) := by decide +kernel
theorem dX7_shutting_88 : decode cX7_shutting 88 = .ok (.iconst 5, 1) := by decide +kernel
theorem dX7_shutting_89 : decode cX7_shutting 89 = .ok (.ixor, 1) := by decide +kernel
theorem dX7_shutting_90 : decode cX7_shutting 90 = .ok (.goto 5, 3) := by decide +kernel
theorem dX7_shutting_93 : decode cX7_shutting 93 = .ok (.iload 4, 2) := by decide +kernel
theorem dX7_shutting_95 : decode cX7_shutting 95 = .ok (.ireturn, 1) := by decide +kernel
theorem dX7_act_0 : decode cX7_act 0 = .ok (.aload_n 0, 1) := by decide +kernel
theorem dX7_act_1 : decode cX7_act 1 = .ok (.iconst 0, 1) := by decide +kernel
theorem dX7_act_2 : decode cX7_act 2 = .ok (.putfield 275, 3) := by decide +kernel
theorem dX7_act_5 : decode cX7_act 5 = .ok (.aload_n 0, 1) := by decide +kernel
theorem dX7_act_6 : decode cX7_act 6 = .ok (.iload_n 1, 1) := by decide +kernel
theorem dX7_act_7 : decode cX7_act 7 = .ok (.invokevirtual 143, 3) := by decide +kernel
theorem dX7_act_10 : decode cX7_act 10 = .ok (.ifCond .eq 12, 3) := by decide +kernel
theorem dX7_act_13 : decode cX7_act 13 = .ok (.iload_n 2, 1) := by decide +kernel
theorem dX7_act_14 : decode cX7_act 14 = .ok (.ifCond .lt 8, 3) := by decide +kernel
theorem dX7_act_17 : decode cX7_act 17 = .ok (.iload_n 2, 1) := by decide +kernel
theorem dX7_act_18 : decode cX7_act 18 = .ok (.iconst 2, 1) := by decide +kernel
theorem dX7_act_19 : decode cX7_act 19 = .ok (.if_icmp .le 5, 3) := by decide +kernel
theorem dX7_act_22 : decode cX7_act 22 = .ok (.iconst 0, 1) := by decide +kernel
theorem dX7_act_23 : decode cX7_act 23 = .ok (.ireturn, 1) := by decide +kernel
theorem dX7_act_24 : decode cX7_act 24 = .ok (.iload_n 2, 1) := by decide +kernel
theorem dX7_act_25 : decode cX7_act 25 = .ok (.ifCond .ne 12, 3) := by decide +kernel
theorem dX7_act_28 : decode cX7_act 28 = .ok (.aload_n 0, 1) := by decide +kernel
theorem dX7_act_29 : decode cX7_act 29 = .ok (.iload_n 1, 1) := by decide +kernel
theorem dX7_act_30 : decode cX7_act 30 = .ok (.iload_n 3, 1) := by decide +kernel
theorem dX7_act_31 : decode cX7_act 31 = .ok (.invokevirtual 281, 3) := by decide +kernel
theorem dX7_act_34 : decode cX7_act 34 = .ok (.goto 23, 3) := by decide +kernel
theorem dX7_act_37 : decode cX7_act 37 = .ok (.iload_n 2, 1) := by decide +kernel
theorem dX7_act_38 : decode cX7_act 38 = .ok (.iconst 1, 1) := by decide +kernel
theorem dX7_act_39 : decode cX7_act 39 = .ok (.if_icmp .ne 12, 3) := by decide +kernel
theorem dX7_act_42 : decode cX7_act 42 = .ok (.aload_n 0, 1) := by decide +kernel
theorem dX7_act_43 : decode cX7_act 43 = .ok (.iload_n 1, 1) := by decide +kernel
theorem dX7_act_44 : decode cX7_act 44 = .ok (.iload_n 3, 1) := by decide +kernel
theorem dX7_act_45 : decode cX7_act 45 = .ok (.invokevirtual 284, 3) := by decide +kernel
theorem dX7_act_48 : decode cX7_act 48 = .ok (.goto 9, 3) := by decide +kernel
theorem dX7_act_51 : decode cX7_act 51 = .ok (.aload_n 0, 1) := by decide +kernel
theorem dX7_act_52 : decode cX7_act 52 = .ok (.iload_n 1, 1) := by decide +kernel
theorem dX7_act_53 : decode cX7_act 53 = .ok (.iload_n 3, 1) := by decide +kernel
theorem dX7_act_54 : decode cX7_act 54 = .ok (.invokevirtual 287, 3) := by decide +kernel
theorem dX7_act_57 : decode cX7_act 57 = .ok (.ireturn, 1) := by decide +kernel
theorem dX7_trace_0 : decode cX7_trace 0 = .ok (.iload_n 1, 1) := by decide +kernel
theorem dX7_trace_1 : decode cX7_trace 1 = .ok (.ifCond .lt 26, 3) := by decide +kernel
theorem dX7_trace_4 : decode cX7_trace 4 = .ok (.iload_n 1, 1) := by decide +kernel
theorem dX7_trace_5 : decode cX7_trace 5 = .ok (.bipush 20, 2) := by decide +kernel
theorem dX7_trace_7 : decode cX7_trace 7 = .ok (.if_icmp .ge 20, 3) := by decide +kernel
theorem dX7_trace_10 : decode cX7_trace 10 = .ok (.iload_n 1, 1) := by decide +kernel
theorem dX7_trace_11 : decode cX7_trace 11 = .ok (.aload_n 0, 1) := by decide +kernel
theorem dX7_trace_12 : decode cX7_trace 12 = .ok (.getfield 275, 3) := by decide +kernel
theorem dX7_trace_15 : decode cX7_trace 15 = .ok (.if_icmp .ge 12, 3) := by decide +kernel
theorem dX7_trace_18 : decode cX7_trace 18 = .ok (.aload_n 0, 1) := by decide +kernel
theorem dX7_trace_19 : decode cX7_trace 19 = .ok (.getfield 126, 3) := by decide +kernel
theorem dX7_trace_22 : decode cX7_trace 22 = .ok (.iload_n 1, 1) := by decide +kernel
theorem dX7_trace_23 : decode cX7_trace 23 = .ok (.iaload, 1) := by decide +kernel
theorem dX7_trace_24 : decode cX7_trace 24 = .ok (.goto 4, 3) := by decide +kernel
theorem dX7_trace_27 : decode cX7_trace 27 = .ok (.iconst (-1), 1) := by decide +kernel
theorem dX7_trace_28 : decode cX7_trace 28 = .ok (.ireturn, 1) := by decide +kernel
theorem dX7_image_0 : decode cX7_image 0 = .ok (.aload_n 0, 1) := by decide +kernel
theorem dX7_image_1 : decode cX7_image 1 = .ok (.iconst 1, 1) := by decide +kernel
theorem dX7_image_2 : decode cX7_image 2 = .ok (.putfield 290, 3) := by decide +kernel
theorem dX7_image_5 : decode cX7_image 5 = .ok (.aload_n 0, 1) := by decide +kernel
theorem dX7_image_6 : decode cX7_image 6 = .ok (.aload_n 0, 1) := by decide +kernel
theorem dX7_image_7 : decode cX7_image 7 = .ok (.getfield 90, 3) := by decide +kernel
theorem dX7_image_10 : decode cX7_image 10 = .ok (.iconst 0, 1) := by decide +kernel
theorem dX7_image_11 : decode cX7_image 11 = .ok (.invokevirtual 213, 3) := by decide +kernel
theorem dX7_image_14 : decode cX7_image 14 = .ok (.aload_n 0, 1) := by decide +kernel
theorem dX7_image_15 : decode cX7_image 15 = .ok (.getfield 129, 3) := by decide +kernel
theorem dX7_image_18 : decode cX7_image 18 = .ok (.ireturn, 1) := by decide +kernel
theorem dX7_restore_0 : decode cX7_restore 0 = .ok (.aload_n 0, 1) := by decide +kernel
theorem dX7_restore_1 : decode cX7_restore 1 = .ok (.getfield 290, 3) := by decide +kernel
theorem dX7_restore_4 : decode cX7_restore 4 = .ok (.ifCond .ne 10, 3) := by decide +kernel
theorem dX7_restore_7 : decode cX7_restore 7 = .ok (.aload_n 0, 1) := by decide +kernel
theorem dX7_restore_8 : decode cX7_restore 8 = .ok (.bipush (-6), 2) := by decide +kernel
theorem dX7_restore_10 : decode cX7_restore 10 = .ok (.invokevirtual 139, 3) := by decide +kernel
theorem dX7_restore_13 : decode cX7_restore 13 = .ok (.ireturn, 1) := by decide +kernel
theorem dX7_restore_14 : decode cX7_restore 14 = .ok (.aload_n 0, 1) := by decide +kernel
theorem dX7_restore_15 : decode cX7_restore 15 = .ok (.aload_n 0, 1) := by decide +kernel
theorem dX7_restore_16 : decode cX7_restore 16 = .ok (.getfield 90, 3) := by decide +kernel
theorem dX7_restore_19 : decode cX7_restore 19 = .ok (.iconst 1, 1) := by decide +kernel
theorem dX7_restore_20 : decode cX7_restore 20 = .ok (.invokevirtual 213, 3) := by decide +kernel
theorem dX7_restore_23 : decode cX7_restore 23 = .ok (.iconst 0, 1) := by decide +kernel
theorem dX7_restore_24 : decode cX7_restore 24 = .ok (.istore_n 1, 1) := by decide +kernel
theorem dX7_restore_25 : decode cX7_restore 25 = .ok (.iload_n 1, 1) := by decide +kernel
theorem dX7_restore_26 : decode cX7_restore 26 = .ok (.bipush 8, 2) := by decide +kernel
theorem dX7_restore_28 : decode cX7_restore 28 = .ok (.if_icmp .ge 39, 3) := by decide +kernel
theorem dX7_restore_31 : decode cX7_restore 31 = .ok (.aload_n 0, 1) := by decide +kernel
theorem dX7_restore_32 : decode cX7_restore 32 = .ok (.getfield 56, 3) := by decide +kernel
theorem dX7_restore_35 : decode cX7_restore 35 = .ok (.iload_n 1, 1) := by decide +kernel
theorem dX7_restore_36 : decode cX7_restore 36 = .ok (.iaload, 1) := by decide +kernel
theorem dX7_restore_37 : decode cX7_restore 37 = .ok (.iconst 2, 1) := by decide +kernel
theorem dX7_restore_38 : decode cX7_restore 38 = .ok (.if_icmp .ne 23, 3) := by decide +kernel
theorem dX7_restore_41 : decode cX7_restore 41 = .ok (.aload_n 0, 1) := by decide +kernel
theorem dX7_restore_42 : decode cX7_restore 42 = .ok (.getfield 65, 3) := by decide +kernel
theorem dX7_restore_45 : decode cX7_restore 45 = .ok (.iload_n 1, 1) := by decide +kernel
theorem dX7_restore_46 : decode cX7_restore 46 = .ok (.iaload, 1) := by decide +kernel
theorem dX7_restore_47 : decode cX7_restore 47 = .ok (.aload_n 0, 1) := by decide +kernel
theorem dX7_restore_48 : decode cX7_restore 48 = .ok (.getfield 129, 3) := by decide +kernel
theorem dX7_restore_51 : decode cX7_restore 51 = .ok (.if_icmp .lt 10, 3) := by decide +kernel
theorem dX7_restore_54 : decode cX7_restore 54 = .ok (.aload_n 0, 1) := by decide +kernel
theorem dX7_restore_55 : decode cX7_restore 55 = .ok (.getfield 56, 3) := by decide +kernel
theorem dX7_restore_58 : decode cX7_restore 58 = .ok (.iload_n 1, 1) := by decide +kernel
theorem dX7_restore_59 : decode cX7_restore 59 = .ok (.iconst 0, 1) := by decide +kernel
theorem dX7_restore_60 : decode cX7_restore 60 = .ok (.iastore, 1) := by decide +kernel
theorem dX7_restore_61 : decode cX7_restore 61 = .ok (.iinc 1 1, 3) := by decide +kernel
theorem dX7_restore_64 : decode cX7_restore 64 = .ok (.goto (-39), 3) := by decide +kernel
theorem dX7_restore_67 : decode cX7_restore 67 = .ok (.aload_n 0, 1) := by decide +kernel
theorem dX7_restore_68 : decode cX7_restore 68 = .ok (.getfield 129, 3) := by decide +kernel
theorem dX7_restore_71 : decode cX7_restore 71 = .ok (.ireturn, 1) := by decide +kernel
theorem dX7_together_0 : decode cX7_together 0 = .ok (.iconst 0, 1) := by decide +kernel
theorem dX7_together_1 : decode cX7_together 1 = .ok (.istore_n 3, 1) := by decide +kernel
theorem dX7_together_2 : decode cX7_together 2 = .ok (.iconst 0, 1) := by decide +kernel
theorem dX7_together_3 : decode cX7_together 3 = .ok (.istore 4, 2) := by decide +kernel
theorem dX7_together_5 : decode cX7_together 5 = .ok (.iload 4, 2) := by decide +kernel
theorem dX7_together_7 : decode cX7_together 7 = .ok (.iload_n 2, 1) := by decide +kernel
theorem dX7_together_8 : decode cX7_together 8 = .ok (.if_icmp .ge 16, 3) := by decide +kernel
theorem dX7_together_11 : decode cX7_together 11 = .ok (.iload_n 3, 1) := by decide +kernel
theorem dX7_together_12 : decode cX7_together 12 = .ok (.aload_n 1, 1) := by decide +kernel
theorem dX7_together_13 : decode cX7_together 13 = .ok (.iload 4, 2) := by decide +kernel
theorem dX7_together_15 : decode cX7_together 15 = .ok (.iaload, 1) := by decide +kernel
theorem dX7_together_16 : decode cX7_together 16 = .ok (.iadd, 1) := by decide +kernel
theorem dX7_together_17 : decode cX7_together 17 = .ok (.istore_n 3, 1) := by decide +kernel
theorem dX7_together_18 : decode cX7_together 18 = .ok (.iinc 4 1, 3) := by decide +kernel
theorem dX7_together_21 : decode cX7_together 21 = .ok (.goto (-16), 3) := by decide +kernel
theorem dX7_together_24 : decode cX7_together 24 = .ok (.iload_n 3, 1) := by decide +kernel
theorem dX7_together_25 : decode cX7_together 25 = .ok (.ireturn, 1) := by decide +kernel
theorem dX7_status_0 : decode cX7_status 0 = .ok (.iload_n 1, 1) := by decide +kernel
theorem dX7_status_1 : decode cX7_status 1 = .ok (.bipush 11, 2) := by decide +kernel
theorem dX7_status_3 : decode cX7_status 3 = .ok (.if_icmp .lt 19, 3) := by decide +kernel
theorem dX7_status_6 : decode cX7_status 6 = .ok (.iload_n 1, 1) := by decide +kernel
theorem dX7_status_7 : decode cX7_status 7 = .ok (.bipush 17, 2) := by decide +kernel
theorem dX7_status_9 : decode cX7_status 9 = .ok (.if_icmp .gt 13, 3) := by decide +kernel
theorem dX7_status_12 : decode cX7_status 12 = .ok (.aload_n 0, 1) := by decide +kernel
theorem dX7_status_13 : decode cX7_status 13 = .ok (.getfield 16, 3) := by decide +kernel
theorem dX7_status_16 : decode cX7_status 16 = .ok (.iload_n 1, 1) := by decide +kernel
theorem dX7_status_17 : decode cX7_status 17 = .ok (.bipush 10, 2) := by decide +kernel
theorem dX7_status_19 : decode cX7_status 19 = .ok (.isub, 1) := by decide +kernel
theorem dX7_status_20 : decode cX7_status 20 = .ok (.iaload, 1) := by decide +kernel
theorem dX7_status_21 : decode cX7_status 21 = .ok (.ireturn, 1) := by decide +kernel
theorem dX7_status_22 : decode cX7_status 22 = .ok (.iload_n 1, 1) := by decide +kernel
theorem dX7_status_23 : decode cX7_status 23 = .ok (.tableswitch 126 0 8 #[49, 54, 59, 64, 77, 90, 103, 116, 121], 49) := by decide +kernel
theorem dX7_status_72 : decode cX7_status 72 = .ok (.aload_n 0, 1) := by decide +kernel
theorem dX7_status_73 : decode cX7_status 73 = .ok (.getfield 129, 3) := by decide +kernel
theorem dX7_status_76 : decode cX7_status 76 = .ok (.ireturn, 1) := by decide +kernel
theorem dX7_status_77 : decode cX7_status 77 = .ok (.aload_n 0, 1) := by decide +kernel
theorem dX7_status_78 : decode cX7_status 78 = .ok (.getfield 132, 3) := by decide +kernel
theorem dX7_status_81 : decode cX7_status 81 = .ok (.ireturn, 1) := by decide +kernel
theorem dX7_status_82 : decode cX7_status 82 = .ok (.aload_n 0, 1) := by decide +kernel
theorem dX7_status_83 : decode cX7_status 83 = .ok (.getfield 207, 3) := by decide +kernel
theorem dX7_status_86 : decode cX7_status 86 = .ok (.ireturn, 1) := by decide +kernel
theorem dX7_status_87 : decode cX7_status 87 = .ok (.aload_n 0, 1) := by decide +kernel
theorem dX7_status_88 : decode cX7_status 88 = .ok (.aload_n 0, 1) := by decide +kernel
theorem dX7_status_89 : decode cX7_status 89 = .ok (.getfield 32, 3) := by decide +kernel
theorem dX7_status_92 : decode cX7_status 92 = .ok (.aload_n 0, 1) := by decide +kernel
theorem dX7_status_93 : decode cX7_status 93 = .ok (.getfield 129, 3) := by decide +kernel
theorem dX7_status_96 : decode cX7_status 96 = .ok (.invokevirtual 294, 3) := by decide +kernel
theorem dX7_status_99 : decode cX7_status 99 = .ok (.ireturn, 1) := by decide +kernel
theorem dX7_status_100 : decode cX7_status 100 = .ok (.aload_n 0, 1) := by decide +kernel
theorem dX7_status_101 : decode cX7_status 101 = .ok (.aload_n 0, 1) := by decide +kernel
theorem dX7_status_102 : decode cX7_status 102 = .ok (.getfield 50, 3) := by decide +kernel
theorem dX7_status_105 : decode cX7_status 105 = .ok (.aload_n 0, 1) := by decide +kernel
theorem dX7_status_106 : decode cX7_status 106 = .ok (.getfield 132, 3) := by decide +kernel
theorem dX7_status_109 : decode cX7_status 109 = .ok (.invokevirtual 294, 3) := by decide +kernel
theorem dX7_status_112 : decode cX7_status 112 = .ok (.ireturn, 1) := by decide +kernel
theorem dX7_status_113 : decode cX7_status 113 = .ok (.aload_n 0, 1) := by decide +kernel
theorem dX7_status_114 : decode cX7_status 114 = .ok (.aload_n 0, 1) := by decide +kernel
theorem dX7_status_115 : decode cX7_status 115 = .ok (.getfield 38, 3) := by decide +kernel
theorem dX7_status_118 : decode cX7_status 118 = .ok (.aload_n 0, 1) := by decide +kernel
theorem dX7_status_119 : decode cX7_status 119 = .ok (.getfield 129, 3) := by decide +kernel
theorem dX7_status_122 : decode cX7_status 122 = .ok (.invokevirtual 294, 3) := by decide +kernel
theorem dX7_status_125 : decode cX7_status 125 = .ok (.ireturn, 1) := by decide +kernel
theorem dX7_status_126 : decode cX7_status 126 = .ok (.aload_n 0, 1) := by decide +kernel
theorem dX7_status_127 : decode cX7_status 127 = .ok (.aload_n 0, 1) := by decide +kernel
theorem dX7_status_128 : decode cX7_status 128 = .ok (.getfield 53, 3) := by decide +kernel
theorem dX7_status_131 : decode cX7_status 131 = .ok (.aload_n 0, 1) := by decide +kernel
theorem dX7_status_132 : decode cX7_status 132 = .ok (.getfield 132, 3) := by decide +kernel
theorem dX7_status_135 : decode cX7_status 135 = .ok (.invokevirtual 294, 3) := by decide +kernel
theorem dX7_status_138 : decode cX7_status 138 = .ok (.ireturn, 1) := by decide +kernel
theorem dX7_status_139 : decode cX7_status 139 = .ok (.aload_n 0, 1) := by decide +kernel
theorem dX7_status_140 : decode cX7_status 140 = .ok (.getfield 7, 3) := by decide +kernel
theorem dX7_status_143 : decode cX7_status 143 = .ok (.ireturn, 1) := by decide +kernel
theorem dX7_status_144 : decode cX7_status 144 = .ok (.aload_n 0, 1) := by decide +kernel
theorem dX7_status_145 : decode cX7_status 145 = .ok (.getfield 275, 3) := by decide +kernel
theorem dX7_status_148 : decode cX7_status 148 = .ok (.ireturn, 1) := by decide +kernel
theorem dX7_status_149 : decode cX7_status 149 = .ok (.iconst (-1), 1) := by decide +kernel
theorem dX7_status_150 : decode cX7_status 150 = .ok (.ireturn, 1) := by decide +kernel
