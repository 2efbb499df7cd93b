/-! decode rows -/
theorem dX7_beggar_48 : decode cX7_beggar 48 = .ok (.iload_n 2, 1) := by decide +kernel
theorem dX7_beggar_49 : decode cX7_beggar 49 = .ok (.invokevirtual 157, 3) := by decide +kernel
theorem dX7_beggar_52 : decode cX7_beggar 52 = .ok (.ireturn, 1) := by decide +kernel
theorem dX7_tell_0 : decode cX7_tell 0 = .ok (.aload_n 0, 1) := by decide +kernel
theorem dX7_tell_1 : decode cX7_tell 1 = .ok (.iload_n 1, 1) := by decide +kernel
theorem dX7_tell_2 : decode cX7_tell 2 = .ok (.invokevirtual 143, 3) := by decide +kernel
theorem dX7_tell_5 : decode cX7_tell 5 = .ok (.ifCond .ne 9, 3) := by decide +kernel
theorem dX7_tell_8 : decode cX7_tell 8 = .ok (.aload_n 0, 1) := by decide +kernel
theorem dX7_tell_9 : decode cX7_tell 9 = .ok (.iconst (-1), 1) := by decide +kernel
theorem dX7_tell_10 : decode cX7_tell 10 = .ok (.invokevirtual 139, 3) := by decide +kernel
theorem dX7_tell_13 : decode cX7_tell 13 = .ok (.ireturn, 1) := by decide +kernel
theorem dX7_tell_14 : decode cX7_tell 14 = .ok (.iload_n 2, 1) := by decide +kernel
theorem dX7_tell_15 : decode cX7_tell 15 = .ok (.ifCond .lt 37, 3) := by decide +kernel
theorem dX7_tell_18 : decode cX7_tell 18 = .ok (.iload_n 2, 1) := by decide +kernel
theorem dX7_tell_19 : decode cX7_tell 19 = .ok (.iconst 3, 1) := by decide +kernel
theorem dX7_tell_20 : decode cX7_tell 20 = .ok (.if_icmp .gt 32, 3) := by decide +kernel
theorem dX7_tell_23 : decode cX7_tell 23 = .ok (.aload_n 0, 1) := by decide +kernel
theorem dX7_tell_24 : decode cX7_tell 24 = .ok (.iload_n 3, 1) := by decide +kernel
theorem dX7_tell_25 : decode cX7_tell 25 = .ok (.iconst 0, 1) := by decide +kernel
theorem dX7_tell_26 : decode cX7_tell 26 = .ok (.iload_n 2, 1) := by decide +kernel
theorem dX7_tell_27 : decode cX7_tell 27 = .ok (.ifCond .ne 7, 3) := by decide +kernel
theorem dX7_tell_30 : decode cX7_tell 30 = .ok (.iconst 1, 1) := by decide +kernel
theorem dX7_tell_31 : decode cX7_tell 31 = .ok (.goto 15, 3) := by decide +kernel
theorem dX7_tell_34 : decode cX7_tell 34 = .ok (.iload_n 2, 1) := by decide +kernel
theorem dX7_tell_35 : decode cX7_tell 35 = .ok (.iconst 2, 1) := by decide +kernel
theorem dX7_tell_36 : decode cX7_tell 36 = .ok (.if_icmp .ne 8, 3) := by decide +kernel
theorem dX7_tell_39 : decode cX7_tell 39 = .ok (.bipush 20, 2) := by decide +kernel
theorem dX7_tell_41 : decode cX7_tell 41 = .ok (.goto 5, 3) := by decide +kernel
theorem dX7_tell_44 : decode cX7_tell 44 = .ok (.bipush 99, 2) := by decide +kernel
theorem dX7_tell_46 : decode cX7_tell 46 = .ok (.invokevirtual 149, 3) := by decide +kernel
theorem dX7_tell_49 : decode cX7_tell 49 = .ok (.ifCond .ne 10, 3) := by decide +kernel
theorem dX7_tell_52 : decode cX7_tell 52 = .ok (.aload_n 0, 1) := by decide +kernel
theorem dX7_tell_53 : decode cX7_tell 53 = .ok (.bipush (-6), 2) := by decide +kernel
theorem dX7_tell_55 : decode cX7_tell 55 = .ok (.invokevirtual 139, 3) := by decide +kernel
theorem dX7_tell_58 : decode cX7_tell 58 = .ok (.ireturn, 1) := by decide +kernel
theorem dX7_tell_59 : decode cX7_tell 59 = .ok (.iload_n 2, 1) := by decide +kernel
theorem dX7_tell_60 : decode cX7_tell 60 = .ok (.ifCond .ne 12, 3) := by decide +kernel
theorem dX7_tell_63 : decode cX7_tell 63 = .ok (.aload_n 0, 1) := by decide +kernel
theorem dX7_tell_64 : decode cX7_tell 64 = .ok (.getfield 38, 3) := by decide +kernel
theorem dX7_tell_67 : decode cX7_tell 67 = .ok (.iload_n 1, 1) := by decide +kernel
theorem dX7_tell_68 : decode cX7_tell 68 = .ok (.iaload, 1) := by decide +kernel
theorem dX7_tell_69 : decode cX7_tell 69 = .ok (.goto 37, 3) := by decide +kernel
theorem dX7_tell_72 : decode cX7_tell 72 = .ok (.iload_n 2, 1) := by decide +kernel
theorem dX7_tell_73 : decode cX7_tell 73 = .ok (.iconst 1, 1) := by decide +kernel
theorem dX7_tell_74 : decode cX7_tell 74 = .ok (.if_icmp .ne 12, 3) := by decide +kernel
theorem dX7_tell_77 : decode cX7_tell 77 = .ok (.aload_n 0, 1) := by decide +kernel
theorem dX7_tell_78 : decode cX7_tell 78 = .ok (.getfield 32, 3) := by decide +kernel
theorem dX7_tell_81 : decode cX7_tell 81 = .ok (.iload_n 1, 1) := by decide +kernel
theorem dX7_tell_82 : decode cX7_tell 82 = .ok (.iaload, 1) := by decide +kernel
theorem dX7_tell_83 : decode cX7_tell 83 = .ok (.goto 23, 3) := by decide +kernel
theorem dX7_tell_86 : decode cX7_tell 86 = .ok (.iload_n 2, 1) := by decide +kernel
theorem dX7_tell_87 : decode cX7_tell 87 = .ok (.iconst 2, 1) := by decide +kernel
theorem dX7_tell_88 : decode cX7_tell 88 = .ok (.if_icmp .ne 12, 3) := by decide +kernel
theorem dX7_tell_91 : decode cX7_tell 91 = .ok (.aload_n 0, 1) := by decide +kernel
theorem dX7_tell_92 : decode cX7_tell 92 = .ok (.getfield 29, 3) := by decide +kernel
theorem dX7_tell_95 : decode cX7_tell 95 = .ok (.iload_n 1, 1) := by decide +kernel
theorem dX7_tell_96 : decode cX7_tell 96 = .ok (.iaload, 1) := by decide +kernel
theorem dX7_tell_97 : decode cX7_tell 97 = .ok (.goto 9, 3) := by decide +kernel
theorem dX7_tell_100 : decode cX7_tell 100 = .ok (.aload_n 0, 1) := by decide +kernel
theorem dX7_tell_101 : decode cX7_tell 101 = .ok (.getfield 26, 3) := by decide +kernel
theorem dX7_tell_104 : decode cX7_tell 104 = .ok (.iload_n 1, 1) := by decide +kernel
theorem dX7_tell_105 : decode cX7_tell 105 = .ok (.iaload, 1) := by decide +kernel
theorem dX7_tell_106 : decode cX7_tell 106 = .ok (.istore 4, 2) := by decide +kernel
theorem dX7_tell_108 : decode cX7_tell 108 = .ok (.iload_n 2, 1) := by decide +kernel
theorem dX7_tell_109 : decode cX7_tell 109 = .ok (.ifCond .ne 13, 3) := by decide +kernel
theorem dX7_tell_112 : decode cX7_tell 112 = .ok (.aload_n 0, 1) := by decide +kernel
theorem dX7_tell_113 : decode cX7_tell 113 = .ok (.getfield 38, 3) := by decide +kernel
theorem dX7_tell_116 : decode cX7_tell 116 = .ok (.iload_n 1, 1) := by decide +kernel
theorem dX7_tell_117 : decode cX7_tell 117 = .ok (.iload_n 3, 1) := by decide +kernel
theorem dX7_tell_118 : decode cX7_tell 118 = .ok (.iastore, 1) := by decide +kernel
theorem dX7_tell_119 : decode cX7_tell 119 = .ok (.goto 40, 3) := by decide +kernel
theorem dX7_tell_122 : decode cX7_tell 122 = .ok (.iload_n 2, 1) := by decide +kernel
theorem dX7_tell_123 : decode cX7_tell 123 = .ok (.iconst 1, 1) := by decide +kernel
theorem dX7_tell_124 : decode cX7_tell 124 = .ok (.if_icmp .ne 13, 3) := by decide +kernel
theorem dX7_tell_127 : decode cX7_tell 127 = .ok (.aload_n 0, 1) := by decide +kernel
theorem dX7_tell_128 : decode cX7_tell 128 = .ok (.getfield 32, 3) := by decide +kernel
theorem dX7_tell_131 : decode cX7_tell 131 = .ok (.iload_n 1, 1) := by decide +kernel
theorem dX7_tell_132 : decode cX7_tell 132 = .ok (.iload_n 3, 1) := by decide +kernel
theorem dX7_tell_133 : decode cX7_tell 133 = .ok (.iastore, 1) := by decide +kernel
theorem dX7_tell_134 : decode cX7_tell 134 = .ok (.goto 25, 3) := by decide +kernel
theorem dX7_tell_137 : decode cX7_tell 137 = .ok (.iload_n 2, 1) := by decide +kernel
theorem dX7_tell_138 : decode cX7_tell 138 = .ok (.iconst 2, 1) := by decide +kernel
theorem dX7_tell_139 : decode cX7_tell 139 = .ok (.if_icmp .ne 13, 3) := by decide +kernel
theorem dX7_tell_142 : decode cX7_tell 142 = .ok (.aload_n 0, 1) := by decide +kernel
theorem dX7_tell_143 : decode cX7_tell 143 = .ok (.getfield 29, 3) := by decide +kernel
theorem dX7_tell_146 : decode cX7_tell 146 = .ok (.iload_n 1, 1) := by decide +kernel
theorem dX7_tell_147 : decode cX7_tell 147 = .ok (.iload_n 3, 1) := by decide +kernel
theorem dX7_tell_148 : decode cX7_tell 148 = .ok (.iastore, 1) := by decide +kernel
theorem dX7_tell_149 : decode cX7_tell 149 = .ok (.goto 10, 3) := by decide +kernel
theorem dX7_tell_152 : decode cX7_tell 152 = .ok (.aload_n 0, 1) := by decide +kernel
theorem dX7_tell_153 : decode cX7_tell 153 = .ok (.getfield 26, 3) := by decide +kernel
theorem dX7_tell_156 : decode cX7_tell 156 = .ok (.iload_n 1, 1) := by decide +kernel
theorem dX7_tell_157 : decode cX7_tell 157 = .ok (.iload_n 3, 1) := by decide +kernel
theorem dX7_tell_158 : decode cX7_tell 158 = .ok (.iastore, 1) := by decide +kernel
theorem dX7_tell_159 : decode cX7_tell 159 = .ok (.iload 4, 2) := by decide +kernel
theorem dX7_tell_161 : decode cX7_tell 161 = .ok (.ireturn, 1) := by decide +kernel
theorem dX7_post_0 : decode cX7_post 0 = .ok (.aload_n 0, 1) := by decide +kernel
theorem dX7_post_1 : decode cX7_post 1 = .ok (.iload_n 1, 1) := by decide +kernel
theorem dX7_post_2 : decode cX7_post 2 = .ok (.invokevirtual 161, 3) := by decide +kernel
theorem dX7_post_5 : decode cX7_post 5 = .ok (.ifCond .ne 9, 3) := by decide +kernel
theorem dX7_post_8 : decode cX7_post 8 = .ok (.aload_n 0, 1) := by decide +kernel
theorem dX7_post_9 : decode cX7_post 9 = .ok (.iconst (-1), 1) := by decide +kernel
theorem dX7_post_10 : decode cX7_post 10 = .ok (.invokevirtual 139, 3) := by decide +kernel
theorem dX7_post_13 : decode cX7_post 13 = .ok (.ireturn, 1) := by decide +kernel
theorem dX7_post_14 : decode cX7_post 14 = .ok (.aload_n 0, 1) := by decide +kernel
theorem dX7_post_15 : decode cX7_post 15 = .ok (.getfield 53, 3) := by decide +kernel
theorem dX7_post_18 : decode cX7_post 18 = .ok (.iload_n 1, 1) := by decide +kernel
theorem dX7_post_19 : decode cX7_post 19 = .ok (.iaload, 1) := by decide +kernel
theorem dX7_post_20 : decode cX7_post 20 = .ok (.istore_n 3, 1) := by decide +kernel
theorem dX7_post_21 : decode cX7_post 21 = .ok (.aload_n 0, 1) := by decide +kernel
theorem dX7_post_22 : decode cX7_post 22 = .ok (.getfield 53, 3) := by decide +kernel
theorem dX7_post_25 : decode cX7_post 25 = .ok (.iload_n 1, 1) := by decide +kernel
theorem dX7_post_26 : decode cX7_post 26 = .ok (.iload_n 2, 1) := by decide +kernel
theorem dX7_post_27 : decode cX7_post 27 = .ok (.ifCond .eq 7, 3) := by decide +kernel
theorem dX7_post_30 : decode cX7_post 30 = .ok (.iconst 1, 1) := by decide +kernel
theorem dX7_post_31 : decode cX7_post 31 = .ok (.goto 4, 3) := by decide +kernel
theorem dX7_post_34 : decode cX7_post 34 = .ok (.iconst 0, 1) := by decide +kernel
theorem dX7_post_35 : decode cX7_post 35 = .ok (.iastore, 1) := by decide +kernel
theorem dX7_post_36 : decode cX7_post 36 = .ok (.iload_n 3, 1) := by decide +kernel
theorem dX7_post_37 : decode cX7_post 37 = .ok (.ireturn, 1) := by decide +kernel
theorem dX7_citizenOf_0 : decode cX7_citizenOf 0 = .ok (.aload_n 0, 1) := by decide +kernel
theorem dX7_citizenOf_1 : decode cX7_citizenOf 1 = .ok (.iload_n 1, 1) := by decide +kernel
theorem dX7_citizenOf_2 : decode cX7_citizenOf 2 = .ok (.invokevirtual 143, 3) := by decide +kernel
theorem dX7_citizenOf_5 : decode cX7_citizenOf 5 = .ok (.ifCond .ne 10, 3) := by decide +kernel
theorem dX7_citizenOf_8 : decode cX7_citizenOf 8 = .ok (.aload_n 0, 1) := by decide +kernel
theorem dX7_citizenOf_9 : decode cX7_citizenOf 9 = .ok (.bipush (-5), 2) := by decide +kernel
theorem dX7_citizenOf_11 : decode cX7_citizenOf 11 = .ok (.invokevirtual 139, 3) := by decide +kernel
theorem dX7_citizenOf_14 : decode cX7_citizenOf 14 = .ok (.ireturn, 1) := by decide +kernel
theorem dX7_citizenOf_15 : decode cX7_citizenOf 15 = .ok (.iload_n 2, 1) := by decide +kernel
theorem dX7_citizenOf_16 : decode cX7_citizenOf 16 = .ok (.tableswitch 103 0 7 #[48, 55, 62, 69, 76, 83, 90, 97], 48) := by decide +kernel
theorem dX7_citizenOf_64 : decode cX7_citizenOf 64 = .ok (.aload_n 0, 1) := by decide +kernel
theorem dX7_citizenOf_65 : decode cX7_citizenOf 65 = .ok (.getfield 20, 3) := by decide +kernel
theorem dX7_citizenOf_68 : decode cX7_citizenOf 68 = .ok (.iload_n 1, 1) := by decide +kernel
theorem dX7_citizenOf_69 : decode cX7_citizenOf 69 = .ok (.iaload, 1) := by decide +kernel
theorem dX7_citizenOf_70 : decode cX7_citizenOf 70 = .ok (.ireturn, 1) := by decide +kernel
theorem dX7_citizenOf_71 : decode cX7_citizenOf 71 = .ok (.aload_n 0, 1) := by decide +kernel
theorem dX7_citizenOf_72 : decode cX7_citizenOf 72 = .ok (.getfield 23, 3) := by decide +kernel
theorem dX7_citizenOf_75 : decode cX7_citizenOf 75 = .ok (.iload_n 1, 1) := by decide +kernel
theorem dX7_citizenOf_76 : decode cX7_citizenOf 76 = .ok (.iaload, 1) := by decide +kernel
theorem dX7_citizenOf_77 : decode cX7_citizenOf 77 = .ok (.ireturn, 1) := by decide +kernel
theorem dX7_citizenOf_78 : decode cX7_citizenOf 78 = .ok (.aload_n 0, 1) := by decide +kernel
theorem dX7_citizenOf_79 : decode cX7_citizenOf 79 = .ok (.getfield 26, 3) := by decide +kernel
theorem dX7_citizenOf_82 : decode cX7_citizenOf 82 = .ok (.iload_n 1, 1) := by decide +kernel
theorem dX7_citizenOf_83 : decode cX7_citizenOf 83 = .ok (.iaload, 1) := by decide +kernel
theorem dX7_citizenOf_84 : decode cX7_citizenOf 84 = .ok (.ireturn, 1) := by decide +kernel
theorem dX7_citizenOf_85 : decode cX7_citizenOf 85 = .ok (.aload_n 0, 1) := by decide +kernel
theorem dX7_citizenOf_86 : decode cX7_citizenOf 86 = .ok (.getfield 29, 3) := by decide +kernel
theorem dX7_citizenOf_89 : decode cX7_citizenOf 89 = .ok (.iload_n 1, 1) := by decide +kernel
theorem dX7_citizenOf_90 : decode cX7_citizenOf 90 = .ok (.iaload, 1) := by decide +kernel
theorem dX7_citizenOf_91 : decode cX7_citizenOf 91 = .ok (.ireturn, 1) := by decide +kernel
theorem dX7_citizenOf_92 : decode cX7_citizenOf 92 = .ok (.aload_n 0, 1) := by decide +kernel
theorem dX7_citizenOf_93 : decode cX7_citizenOf 93 = .ok (.getfield 32, 3) := by decide +kernel
theorem dX7_citizenOf_96 : decode cX7_citizenOf 96 = .ok (.iload_n 1, 1) := by decide +kernel
theorem dX7_citizenOf_97 : decode cX7_citizenOf 97 = .ok (.iaload, 1) := by decide +kernel
theorem dX7_citizenOf_98 : decode cX7_citizenOf 98 = .ok (.ireturn, 1) := by decide +kernel
theorem dX7_citizenOf_99 : decode cX7_citizenOf 99 = .ok (.aload_n 0, 1) := by decide +kernel
theorem dX7_citizenOf_100 : decode cX7_citizenOf 100 = .ok (.getfield 35, 3) := by decide +kernel
theorem dX7_citizenOf_103 : decode cX7_citizenOf 103 = .ok (.iload_n 1, 1) := by decide +kernel
theorem dX7_citizenOf_104 : decode cX7_citizenOf 104 = .ok (.iaload, 1) := by decide +kernel
theorem dX7_citizenOf_105 : decode cX7_citizenOf 105 = .ok (.ireturn, 1) := by decide +kernel
theorem dX7_citizenOf_106 : decode cX7_citizenOf 106 = .ok (.aload_n 0, 1) := by decide +kernel
theorem dX7_citizenOf_107 : decode cX7_citizenOf 107 = .ok (.getfield 38, 3) := by decide +kernel
theorem dX7_citizenOf_110 : decode cX7_citizenOf 110 = .ok (.iload_n 1, 1) := by decide +kernel
theorem dX7_citizenOf_111 : decode cX7_citizenOf 111 = .ok (.iaload, 1) := by decide +kernel
theorem dX7_citizenOf_112 : decode cX7_citizenOf 112 = .ok (.ireturn, 1) := by decide +kernel
theorem dX7_citizenOf_113 : decode cX7_citizenOf 113 = .ok (.aload_n 0, 1) := by decide +kernel
theorem dX7_citizenOf_114 : decode cX7_citizenOf 114 = .ok (.iload_n 1, 1) := by decide +kernel
theorem dX7_citizenOf_115 : decode cX7_citizenOf 115 = .ok (.invokevirtual 146, 3) := by decide +kernel
theorem dX7_citizenOf_118 : decode cX7_citizenOf 118 = .ok (.ireturn, 1) := by decide +kernel
theorem dX7_citizenOf_119 : decode cX7_citizenOf 119 = .ok (.aload_n 0, 1) := by decide +kernel
theorem dX7_citizenOf_120 : decode cX7_citizenOf 120 = .ok (.bipush (-5), 2) := by decide +kernel
theorem dX7_citizenOf_122 : decode cX7_citizenOf 122 = .ok (.invokevirtual 139, 3) := by decide +kernel
theorem dX7_citizenOf_125 : decode cX7_citizenOf 125 = .ok (.ireturn, 1) := by decide +kernel
theorem dX7_beggarOf_0 : decode cX7_beggarOf 0 = .ok (.aload_n 0, 1) := by decide +kernel
theorem dX7_beggarOf_1 : decode cX7_beggarOf 1 = .ok (.iload_n 1, 1) := by decide +kernel
theorem dX7_beggarOf_2 : decode cX7_beggarOf 2 = .ok (.invokevirtual 161, 3) := by decide +kernel
theorem dX7_beggarOf_5 : decode cX7_beggarOf 5 = .ok (.ifCond .ne 10, 3) := by decide +kernel
theorem dX7_beggarOf_8 : decode cX7_beggarOf 8 = .ok (.aload_n 0, 1) := by decide +kernel
theorem dX7_beggarOf_9 : decode cX7_beggarOf 9 = .ok (.bipush (-5), 2) := by decide +kernel
theorem dX7_beggarOf_11 : decode cX7_beggarOf 11 = .ok (.invokevirtual 164, 3) := by decide +kernel
theorem dX7_beggarOf_14 : decode cX7_beggarOf 14 = .ok (.ireturn, 1) := by decide +kernel
theorem dX7_beggarOf_15 : decode cX7_beggarOf 15 = .ok (.iload_n 2, 1) := by decide +kernel
theorem dX7_beggarOf_16 : decode cX7_beggarOf 16 = .ok (.tableswitch 71 0 4 #[36, 43, 50, 57, 64], 36) := by decide +kernel
theorem dX7_beggarOf_52 : decode cX7_beggarOf 52 = .ok (.aload_n 0, 1) := by decide +kernel
theorem dX7_beggarOf_53 : decode cX7_beggarOf 53 = .ok (.getfield 41, 3) := by decide +kernel
theorem dX7_beggarOf_56 : decode cX7_beggarOf 56 = .ok (.iload_n 1, 1) := by decide +kernel
theorem dX7_beggarOf_57 : decode cX7_beggarOf 57 = .ok (.iaload, 1) := by decide +kernel
theorem dX7_beggarOf_58 : decode cX7_beggarOf 58 = .ok (.ireturn, 1) := by decide +kernel
theorem dX7_beggarOf_59 : decode cX7_beggarOf 59 = .ok (.aload_n 0, 1) := by decide +kernel
theorem dX7_beggarOf_60 : decode cX7_beggarOf 60 = .ok (.getfield 44, 3) := by decide +kernel
theorem dX7_beggarOf_63 : decode cX7_beggarOf 63 = .ok (.iload_n 1, 1) := by decide +kernel
theorem dX7_beggarOf_64 : decode cX7_beggarOf 64 = .ok (.iaload, 1) := by decide +kernel
theorem dX7_beggarOf_65 : decode cX7_beggarOf 65 = .ok (.ireturn, 1) := by decide +kernel
theorem dX7_beggarOf_66 : decode cX7_beggarOf 66 = .ok (.aload_n 0, 1) := by decide +kernel
theorem dX7_beggarOf_67 : decode cX7_beggarOf 67 = .ok (.getfield 47, 3) := by decide +kernel
theorem dX7_beggarOf_70 : decode cX7_beggarOf 70 = .ok (.iload_n 1, 1) := by decide +kernel
theorem dX7_beggarOf_71 : decode cX7_beggarOf 71 = .ok (.iaload, 1) := by decide +kernel
theorem dX7_beggarOf_72 : decode cX7_beggarOf 72 = .ok (.ireturn, 1) := by decide +kernel
theorem dX7_beggarOf_73 : decode cX7_beggarOf 73 = .ok (.aload_n 0, 1) := by decide +kernel
theorem dX7_beggarOf_74 : decode cX7_beggarOf 74 = .ok (.getfield 50, 3) := by decide +kernel
theorem dX7_beggarOf_77 : decode cX7_beggarOf 77 = .ok (.iload_n 1, 1) := by decide +kernel
theorem dX7_beggarOf_78 : decode cX7_beggarOf 78 = .ok (.iaload, 1) := by decide +kernel
theorem dX7_beggarOf_79 : decode cX7_beggarOf 79 = .ok (.ireturn, 1) := by decide +kernel
theorem dX7_beggarOf_80 : decode cX7_beggarOf 80 = .ok (.aload_n 0, 1) := by decide +kernel
theorem dX7_beggarOf_81 : decode cX7_beggarOf 81 = .ok (.getfield 53, 3) := by decide +kernel
theorem dX7_beggarOf_84 : decode cX7_beggarOf 84 = .ok (.iload_n 1, 1) := by decide +kernel
theorem dX7_beggarOf_85 : decode cX7_beggarOf 85 = .ok (.iaload, 1) := by decide +kernel
theorem dX7_beggarOf_86 : decode cX7_beggarOf 86 = .ok (.ireturn, 1) := by decide +kernel
theorem dX7_beggarOf_87 : decode cX7_beggarOf 87 = .ok (.aload_n 0, 1) := by decide +kernel
theorem dX7_beggarOf_88 : decode cX7_beggarOf 88 = .ok (.bipush (-5), 2) := by decide +kernel
theorem dX7_beggarOf_90 : decode cX7_beggarOf 90 = .ok (.invokevirtual 164, 3) := by decide +kernel
theorem dX7_beggarOf_93 : decode cX7_beggarOf 93 = .ok (.ireturn, 1) := by decide +kernel
theorem dX7_wrong_0 : decode cX7_wrong 0 = .ok (.aload_n 0, 1) := by decide +kernel
theorem dX7_wrong_1 : decode cX7_wrong 1 = .ok (.iload_n 1, 1) := by decide +kernel
theorem dX7_wrong_2 : decode cX7_wrong 2 = .ok (.putfield 167, 3) := by decide +kernel
theorem dX7_wrong_5 : decode cX7_wrong 5 = .ok (.iconst 0, 1) := by decide +kernel
theorem dX7_wrong_6 : decode cX7_wrong 6 = .ok (.ireturn, 1) := by decide +kernel
theorem dX7_stands_0 : decode cX7_stands 0 = .ok (.iconst 0, 1) := by decide +kernel
theorem dX7_stands_1 : decode cX7_stands 1 = .ok (.istore_n 2, 1) := by decide +kernel
theorem dX7_stands_2 : decode cX7_stands 2 = .ok (.iconst 0, 1) := by decide +kernel
theorem dX7_stands_3 : decode cX7_stands 3 = .ok (.istore_n 3, 1) := by decide +kernel
theorem dX7_stands_4 : decode cX7_stands 4 = .ok (.iload_n 3, 1) := by decide +kernel
theorem dX7_stands_5 : decode cX7_stands 5 = .ok (.iload_n 1, 1) := by decide +kernel
theorem dX7_stands_6 : decode cX7_stands 6 = .ok (.if_icmp .ge 26, 3) := by decide +kernel
theorem dX7_stands_9 : decode cX7_stands 9 = .ok (.iload_n 3, 1) := by decide +kernel
theorem dX7_stands_10 : decode cX7_stands 10 = .ok (.aload_n 0, 1) := by decide +kernel
theorem dX7_stands_11 : decode cX7_stands 11 = .ok (.getfield 75, 3) := by decide +kernel
theorem dX7_stands_14 : decode cX7_stands 14 = .ok (.iload_n 2, 1) := by decide +kernel
theorem dX7_stands_15 : decode cX7_stands 15 = .ok (.iaload, 1) := by decide +kernel
theorem dX7_stands_16 : decode cX7_stands 16 = .ok (.ifCond .ne 7, 3) := by decide +kernel
theorem dX7_stands_19 : decode cX7_stands 19 = .ok (.iconst 1, 1) := by decide +kernel
theorem dX7_stands_20 : decode cX7_stands 20 = .ok (.goto 4, 3) := by decide +kernel
theorem dX7_stands_23 : decode cX7_stands 23 = .ok (.iconst 0, 1) := by decide +kernel
theorem dX7_stands_24 : decode cX7_stands 24 = .ok (.iadd, 1) := by decide +kernel
theorem dX7_stands_25 : decode cX7_stands 25 = .ok (.istore_n 3, 1) := by decide +kernel
theorem dX7_stands_26 : decode cX7_stands 26 = .ok (.iinc 2 1, 3) := by decide +kernel
theorem dX7_stands_29 : decode cX7_stands 29 = .ok (.goto (-25), 3) := by decide +kernel
theorem dX7_stands_32 : decode cX7_stands 32 = .ok (.aload_n 0, 1) := by decide +kernel
theorem dX7_stands_33 : decode cX7_stands 33 = .ok (.getfield 170, 3) := by decide +kernel
theorem dX7_stands_36 : decode cX7_stands 36 = .ok (.istore_n 3, 1) := by decide +kernel
theorem dX7_stands_37 : decode cX7_stands 37 = .ok (.aload_n 0, 1) := by decide +kernel
theorem dX7_stands_38 : decode cX7_stands 38 = .ok (.getfield 75, 3) := by decide +kernel
theorem dX7_stands_41 : decode cX7_stands 41 = .ok (.iload_n 2, 1) := by decide +kernel
theorem dX7_stands_42 : decode cX7_stands 42 = .ok (.iaload, 1) := by decide +kernel
theorem dX7_stands_43 : decode cX7_stands 43 = .ok (.bipush 32, 2) := by decide +kernel
theorem dX7_stands_45 : decode cX7_stands 45 = .ok (.if_icmp .le 41, 3) := by decide +kernel
theorem dX7_stands_48 : decode cX7_stands 48 = .ok (.iload_n 3, 1) := by decide +kernel
theorem dX7_stands_49 : decode cX7_stands 49 = .ok (.aload_n 0, 1) := by decide +kernel
theorem dX7_stands_50 : decode cX7_stands 50 = .ok (.getfield 173, 3) := by decide +kernel
theorem dX7_stands_53 : decode cX7_stands 53 = .ok (.if_icmp .ge 33, 3) := by decide +kernel
theorem dX7_stands_56 : decode cX7_stands 56 = .ok (.aload_n 0, 1) := by decide +kernel
theorem dX7_stands_57 : decode cX7_stands 57 = .ok (.getfield 68, 3) := by decide +kernel
theorem dX7_stands_60 : decode cX7_stands 60 = .ok (.aload_n 0, 1) := by decide +kernel
theorem dX7_stands_61 : decode cX7_stands 61 = .ok (.getfield 176, 3) := by decide +kernel
theorem dX7_stands_64 : decode cX7_stands 64 = .ok (.iload_n 3, 1) := by decide +kernel
theorem dX7_stands_65 : decode cX7_stands 65 = .ok (.iadd, 1) := by decide +kernel
theorem dX7_stands_66 : decode cX7_stands 66 = .ok (.laload, 1) := by decide +kernel
theorem dX7_stands_67 : decode cX7_stands 67 = .ok (.l2i, 1) := by decide +kernel
theorem dX7_stands_68 : decode cX7_stands 68 = .ok (.aload_n 0, 1) := by decide +kernel
theorem dX7_stands_69 : decode cX7_stands 69 = .ok (.getfield 75, 3) := by decide +kernel
theorem dX7_stands_72 : decode cX7_stands 72 = .ok (.iload_n 2, 1) := by decide +kernel
theorem dX7_stands_73 : decode cX7_stands 73 = .ok (.iaload, 1) := by decide +kernel
theorem dX7_stands_74 : decode cX7_stands 74 = .ok (.if_icmp .ne 12, 3) := by decide +kernel
theorem dX7_stands_77 : decode cX7_stands 77 = .ok (.iinc 3 1, 3) := by decide +kernel
theorem dX7_stands_80 : decode cX7_stands 80 = .ok (.iinc 2 1, 3) := by decide +kernel
theorem dX7_stands_83 : decode cX7_stands 83 = .ok (.goto (-46), 3) := by decide +kernel
theorem dX7_stands_86 : decode cX7_stands 86 = .ok (.aload_n 0, 1) := by decide +kernel
theorem dX7_stands_87 : decode cX7_stands 87 = .ok (.getfield 75, 3) := by decide +kernel
theorem dX7_stands_90 : decode cX7_stands 90 = .ok (.iload_n 2, 1) := by decide +kernel
theorem dX7_stands_91 : decode cX7_stands 91 = .ok (.iaload, 1) := by decide +kernel
theorem dX7_stands_92 : decode cX7_stands 92 = .ok (.bipush 32, 2) := by decide +kernel
theorem dX7_stands_94 : decode cX7_stands 94 = .ok (.if_icmp .gt 7, 3) := by decide +kernel
theorem dX7_stands_97 : decode cX7_stands 97 = .ok (.iconst 1, 1) := by decide +kernel
theorem dX7_stands_98 : decode cX7_stands 98 = .ok (.goto 4, 3) := by decide +kernel
theorem dX7_stands_101 : decode cX7_stands 101 = .ok (.iconst 0, 1) := by decide +kernel
theorem dX7_stands_102 : decode cX7_stands 102 = .ok (.ireturn, 1) := by decide +kernel
theorem dX7_word_0 : decode cX7_word 0 = .ok (.iconst 0, 1) := by decide +kernel
theorem dX7_word_1 : decode cX7_word 1 = .ok (.istore_n 1, 1) := by decide +kernel
theorem dX7_word_2 : decode cX7_word 2 = .ok (.aload_n 0, 1) := by decide +kernel
theorem dX7_word_3 : decode cX7_word 3 = .ok (.getfield 170, 3) := by decide +kernel
theorem dX7_word_6 : decode cX7_word 6 = .ok (.istore_n 2, 1) := by decide +kernel
theorem dX7_word_7 : decode cX7_word 7 = .ok (.iconst 0, 1) := by decide +kernel
theorem dX7_word_8 : decode cX7_word 8 = .ok (.istore_n 3, 1) := by decide +kernel
theorem dX7_word_9 : decode cX7_word 9 = .ok (.iload_n 3, 1) := by decide +kernel
theorem dX7_word_10 : decode cX7_word 10 = .ok (.bipush 6, 2) := by decide +kernel
theorem dX7_word_12 : decode cX7_word 12 = .ok (.if_icmp .ge 118, 3) := by decide +kernel
theorem dX7_word_15 : decode cX7_word 15 = .ok (.aload_n 0, 1) := by decide +kernel
theorem dX7_word_16 : decode cX7_word 16 = .ok (.getfield 170, 3) := by decide +kernel
theorem dX7_word_19 : decode cX7_word 19 = .ok (.istore 4, 2) := by decide +kernel
theorem dX7_word_21 : decode cX7_word 21 = .ok (.iload_n 1, 1) := by decide +kernel
theorem dX7_word_22 : decode cX7_word 22 = .ok (.istore 5, 2) := by decide +kernel
theorem dX7_word_24 : decode cX7_word 24 = .ok (.aload_n 0, 1) := by decide +kernel
theorem dX7_word_25 : decode cX7_word 25 = .ok (.getfield 75, 3) := by decide +kernel
theorem dX7_word_28 : decode cX7_word 28 = .ok (.iload 5, 2) := by decide +kernel
theorem dX7_word_30 : decode cX7_word 30 = .ok (.iaload, 1) := by decide +kernel
theorem dX7_word_31 : decode cX7_word 31 = .ok (.ifCond .eq 44, 3) := by decide +kernel
theorem dX7_word_34 : decode cX7_word 34 = .ok (.iload 4, 2) := by decide +kernel
theorem dX7_word_36 : decode cX7_word 36 = .ok (.aload_n 0, 1) := by decide +kernel
theorem dX7_word_37 : decode cX7_word 37 = .ok (.getfield 173, 3) := by decide +kernel
theorem dX7_word_40 : decode cX7_word 40 = .ok (.if_icmp .ge 35, 3) := by decide +kernel
theorem dX7_word_43 : decode cX7_word 43 = .ok (.aload_n 0, 1) := by decide +kernel
theorem dX7_word_44 : decode cX7_word 44 = .ok (.getfield 68, 3) := by decide +kernel
theorem dX7_word_47 : decode cX7_word 47 = .ok (.aload_n 0, 1) := by decide +kernel
theorem dX7_word_48 : decode cX7_word 48 = .ok (.getfield 176, 3) := by decide +kernel
theorem dX7_word_51 : decode cX7_word 51 = .ok (.iload 4, 2) := by decide +kernel
theorem dX7_word_53 : decode cX7_word 53 = .ok (.iadd, 1) := by decide +kernel
theorem dX7_word_54 : decode cX7_word 54 = .ok (.laload, 1) := by decide +kernel
theorem dX7_word_55 : decode cX7_word 55 = .ok (.l2i, 1) := by decide +kernel
theorem dX7_word_56 : decode cX7_word 56 = .ok (.aload_n 0, 1) := by decide +kernel
theorem dX7_word_57 : decode cX7_word 57 = .ok (.getfield 75, 3) := by decide +kernel
theorem dX7_word_60 : decode cX7_word 60 = .ok (.iload 5, 2) := by decide +kernel
theorem dX7_word_62 : decode cX7_word 62 = .ok (.iaload, 1) := by decide +kernel
theorem dX7_word_63 : decode cX7_word 63 = .ok (.if_icmp .ne 12, 3) := by decide +kernel
theorem dX7_word_66 : decode cX7_word 66 = .ok (.iinc 4 1, 3) := by decide +kernel
theorem dX7_word_69 : decode cX7_word 69 = .ok (.iinc 5 1, 3) := by decide +kernel
theorem dX7_word_72 : decode cX7_word 72 = .ok (.goto (-48), 3) := by decide +kernel
theorem dX7_word_75 : decode cX7_word 75 = .ok (.aload_n 0, 1) := by decide +kernel
theorem dX7_word_76 : decode cX7_word 76 = .ok (.getfield 75, 3) := by decide +kernel
theorem dX7_word_79 : decode cX7_word 79 = .ok (.iload 5, 2) := by decide +kernel
theorem dX7_word_81 : decode cX7_word 81 = .ok (.iaload, 1) := by decide +kernel
theorem dX7_word_82 : decode cX7_word 82 = .ok (.ifCond .ne 11, 3) := by decide +kernel
theorem dX7_word_85 : decode cX7_word 85 = .ok (.aload_n 0, 1) := by decide +kernel
theorem dX7_word_86 : decode cX7_word 86 = .ok (.iload 4, 2) := by decide +kernel
theorem dX7_word_88 : decode cX7_word 88 = .ok (.putfield 170, 3) := by decide +kernel
theorem dX7_word_91 : decode cX7_word 91 = .ok (.iload_n 3, 1) := by decide +kernel
theorem dX7_word_92 : decode cX7_word 92 = .ok (.ireturn, 1) := by decide +kernel
theorem dX7_word_93 : decode cX7_word 93 = .ok (.iload 4, 2) := by decide +kernel
theorem dX7_word_95 : decode cX7_word 95 = .ok (.iload_n 2, 1) := by decide +kernel
theorem dX7_word_96 : decode cX7_word 96 = .ok (.if_icmp .le 8, 3) := by decide +kernel
theorem dX7_word_99 : decode cX7_word 99 = .ok (.iload 4, 2) := by decide +kernel
theorem dX7_word_101 : decode cX7_word 101 = .ok (.goto 4, 3) := by decide +kernel
theorem dX7_word_104 : decode cX7_word 104 = .ok (.iload_n 2, 1) := by decide +kernel
theorem dX7_word_105 : decode cX7_word 105 = .ok (.istore_n 2, 1) := by decide +kernel
theorem dX7_word_106 : decode cX7_word 106 = .ok (.aload_n 0, 1) := by decide +kernel
theorem dX7_word_107 : decode cX7_word 107 = .ok (.getfield 75, 3) := by decide +kernel
theorem dX7_word_110 : decode cX7_word 110 = .ok (.iload_n 1, 1) := by decide +kernel
theorem dX7_word_111 : decode cX7_word 111 = .ok (.iaload, 1) := by decide +kernel
theorem dX7_word_112 : decode cX7_word 112 = .ok (.ifCond .eq 9, 3) := by decide +kernel
theorem dX7_word_115 : decode cX7_word 115 = .ok (.iinc 1 1, 3) := by decide +kernel
theorem dX7_word_118 : decode cX7_word 118 = .ok (.goto (-12), 3) := by decide +kernel
theorem dX7_word_121 : decode cX7_word 121 = .ok (.iinc 1 1, 3) := by decide +kernel
theorem dX7_word_124 : decode cX7_word 124 = .ok (.iinc 3 1, 3) := by decide +kernel
theorem dX7_word_127 : decode cX7_word 127 = .ok (.goto (-118), 3) := by decide +kernel
theorem dX7_word_130 : decode cX7_word 130 = .ok (.aload_n 0, 1) := by decide +kernel
theorem dX7_word_131 : decode cX7_word 131 = .ok (.iload_n 2, 1) := by decide +kernel
theorem dX7_word_132 : decode cX7_word 132 = .ok (.putfield 167, 3) := by decide +kernel
theorem dX7_word_135 : decode cX7_word 135 = .ok (.iconst (-1), 1) := by decide +kernel
theorem dX7_word_136 : decode cX7_word 136 = .ok (.ireturn, 1) := by decide +kernel
theorem dX7_isDigit_0 : decode cX7_isDigit 0 = .ok (.aload_n 0, 1) := by decide +kernel
theorem dX7_isDigit_1 : decode cX7_isDigit 1 = .ok (.getfield 170, 3) := by decide +kernel
theorem dX7_isDigit_4 : decode cX7_isDigit 4 = .ok (.aload_n 0, 1) := by decide +kernel
theorem dX7_isDigit_5 : decode cX7_isDigit 5 = .ok (.getfield 173, 3) := by decide +kernel
theorem dX7_isDigit_8 : decode cX7_isDigit 8 = .ok (.if_icmp .ge 47, 3) := by decide +kernel
theorem dX7_isDigit_11 : decode cX7_isDigit 11 = .ok (.aload_n 0, 1) := by decide +kernel
theorem dX7_isDigit_12 : decode cX7_isDigit 12 = .ok (.getfield 68, 3) := by decide +kernel
theorem dX7_isDigit_15 : decode cX7_isDigit 15 = .ok (.aload_n 0, 1) := by decide +kernel
theorem dX7_isDigit_16 : decode cX7_isDigit 16 = .ok (.getfield 176, 3) := by decide +kernel
theorem dX7_isDigit_19 : decode cX7_isDigit 19 = .ok (.aload_n 0, 1) := by decide +kernel
theorem dX7_isDigit_20 : decode cX7_isDigit 20 = .ok (.getfield 170, 3) := by decide +kernel
theorem dX7_isDigit_23 : decode cX7_isDigit 23 = .ok (.iadd, 1) := by decide +kernel
theorem dX7_isDigit_24 : decode cX7_isDigit 24 = .ok (.laload, 1) := by decide +kernel
theorem dX7_isDigit_25 : decode cX7_isDigit 25 = .ok (.l2i, 1) := by decide +kernel
theorem dX7_isDigit_26 : decode cX7_isDigit 26 = .ok (.bipush 48, 2) := by decide +kernel
theorem dX7_isDigit_28 : decode cX7_isDigit 28 = .ok (.if_icmp .lt 27, 3) := by decide +kernel
theorem dX7_isDigit_31 : decode cX7_isDigit 31 = .ok (.aload_n 0, 1) := by decide +kernel
theorem dX7_isDigit_32 : decode cX7_isDigit 32 = .ok (.getfield 68, 3) := by decide +kernel
theorem dX7_isDigit_35 : decode cX7_isDigit 35 = .ok (.aload_n 0, 1) := by decide +kernel
theorem dX7_isDigit_36 : decode cX7_isDigit 36 = .ok (.getfield 176, 3) := by decide +kernel
theorem dX7_isDigit_39 : decode cX7_isDigit 39 = .ok (.aload_n 0, 1) := by decide +kernel
theorem dX7_isDigit_40 : decode cX7_isDigit 40 = .ok (.getfield 170, 3) := by decide +kernel
theorem dX7_isDigit_43 : decode cX7_isDigit 43 = .ok (.iadd, 1) := by decide +kernel
theorem dX7_isDigit_44 : decode cX7_isDigit 44 = .ok (.laload, 1) := by decide +kernel
theorem dX7_isDigit_45 : decode cX7_isDigit 45 = .ok (.l2i, 1) := by decide +kernel
theorem dX7_isDigit_46 : decode cX7_isDigit 46 = .ok (.bipush 57, 2) := by decide +kernel
theorem dX7_isDigit_48 : decode cX7_isDigit 48 = .ok (.if_icmp .gt 7, 3) := by decide +kernel
theorem dX7_isDigit_51 : decode cX7_isDigit 51 = .ok (.iconst 1, 1) := by decide +kernel
theorem dX7_isDigit_52 : decode cX7_isDigit 52 = .ok (.goto 4, 3) := by decide +kernel
theorem dX7_isDigit_55 : decode cX7_isDigit 55 = .ok (.iconst 0, 1) := by decide +kernel
theorem dX7_isDigit_56 : decode cX7_isDigit 56 = .ok (.ireturn, 1) := by decide +kernel
theorem dX7_reads_0 : decode cX7_reads 0 = .ok (.aload_n 0, 1) := by decide +kernel
theorem dX7_reads_1 : decode cX7_reads 1 = .ok (.iconst 0, 1) := by decide +kernel
theorem dX7_reads_2 : decode cX7_reads 2 = .ok (.putfield 179, 3) := by decide +kernel
theorem dX7_reads_5 : decode cX7_reads 5 = .ok (.aload_n 0, 1) := by decide +kernel
theorem dX7_reads_6 : decode cX7_reads 6 = .ok (.invokevirtual 182, 3) := by decide +kernel
theorem dX7_reads_9 : decode cX7_reads 9 = .ok (.ifCond .ne 12, 3) := by decide +kernel
theorem dX7_reads_12 : decode cX7_reads 12 = .ok (.aload_n 0, 1) := by decide +kernel
theorem dX7_reads_13 : decode cX7_reads 13 = .ok (.aload_n 0, 1) := by decide +kernel
theorem dX7_reads_14 : decode cX7_reads 14 = .ok (.getfield 170, 3) := by decide +kernel
theorem dX7_reads_17 : decode cX7_reads 17 = .ok (.invokevirtual 186, 3) := by decide +kernel
theorem dX7_reads_20 : decode cX7_reads 20 = .ok (.ireturn, 1) := by decide +kernel
theorem dX7_reads_21 : decode cX7_reads 21 = .ok (.iconst 0, 1) := by decide +kernel
theorem dX7_reads_22 : decode cX7_reads 22 = .ok (.istore_n 1, 1) := by decide +kernel
theorem dX7_reads_23 : decode cX7_reads 23 = .ok (.iload_n 1, 1) := by decide +kernel
theorem dX7_reads_24 : decode cX7_reads 24 = .ok (.iconst 2, 1) := by decide +kernel
theorem dX7_reads_25 : decode cX7_reads 25 = .ok (.if_icmp .ge 56, 3) := by decide +kernel
theorem dX7_reads_28 : decode cX7_reads 28 = .ok (.aload_n 0, 1) := by decide +kernel
theorem dX7_reads_29 : decode cX7_reads 29 = .ok (.invokevirtual 182, 3) := by decide +kernel
theorem dX7_reads_32 : decode cX7_reads 32 = .ok (.ifCond .eq 49, 3) := by decide +kernel
theorem dX7_reads_35 : decode cX7_reads 35 = .ok (.aload_n 0, 1) := by decide +kernel
theorem dX7_reads_36 : decode cX7_reads 36 = .ok (.bipush 10, 2) := by decide +kernel
theorem dX7_reads_38 : decode cX7_reads 38 = .ok (.aload_n 0, 1) := by decide +kernel
theorem dX7_reads_39 : decode cX7_reads 39 = .ok (.getfield 179, 3) := by decide +kernel
theorem dX7_reads_42 : decode cX7_reads 42 = .ok (.imul, 1) := by decide +kernel
theorem dX7_reads_43 : decode cX7_reads 43 = .ok (.aload_n 0, 1) := by decide +kernel
theorem dX7_reads_44 : decode cX7_reads 44 = .ok (.getfield 68, 3) := by decide +kernel
theorem dX7_reads_47 : decode cX7_reads 47 = .ok (.aload_n 0, 1) := by decide +kernel
theorem dX7_reads_48 : decode cX7_reads 48 = .ok (.getfield 176, 3) := by decide +kernel
theorem dX7_reads_51 : decode cX7_reads 51 = .ok (.aload_n 0, 1) := by decide +kernel
theorem dX7_reads_52 : decode cX7_reads 52 = .ok (.getfield 170, 3) := by decide +kernel
theorem dX7_reads_55 : decode cX7_reads 55 = .ok (.iadd, 1) := by decide +kernel
theorem dX7_reads_56 : decode cX7_reads 56 = .ok (.laload, 1) := by decide +kernel
theorem dX7_reads_57 : decode cX7_reads 57 = .ok (.l2i, 1) := by decide +kernel
theorem dX7_reads_58 : decode cX7_reads 58 = .ok (.iadd, 1) := by decide +kernel
theorem dX7_reads_59 : decode cX7_reads 59 = .ok (.bipush 48, 2) := by decide +kernel
theorem dX7_reads_61 : decode cX7_reads 61 = .ok (.isub, 1) := by decide +kernel
theorem dX7_reads_62 : decode cX7_reads 62 = .ok (.putfield 179, 3) := by decide +kernel
theorem dX7_reads_65 : decode cX7_reads 65 = .ok (.aload_n 0, 1) := by decide +kernel
theorem dX7_reads_66 : decode cX7_reads 66 = .ok (.dup, 1) := by decide +kernel
theorem dX7_reads_67 : decode cX7_reads 67 = .ok (.getfield 170, 3) := by decide +kernel
theorem dX7_reads_70 : decode cX7_reads 70 = .ok (.iconst 1, 1) := by decide +kernel
theorem dX7_reads_71 : decode cX7_reads 71 = .ok (.iadd, 1) := by decide +kernel
theorem dX7_reads_72 : decode cX7_reads 72 = .ok (.putfield 170, 3) := by decide +kernel
theorem dX7_reads_75 : decode cX7_reads 75 = .ok (.iinc 1 1, 3) := by decide +kernel
theorem dX7_reads_78 : decode cX7_reads 78 = .ok (.goto (-55), 3) := by decide +kernel
theorem dX7_reads_81 : decode cX7_reads 81 = .ok (.iconst 1, 1) := by decide +kernel
theorem dX7_reads_82 : decode cX7_reads 82 = .ok (.ireturn, 1) := by decide +kernel
theorem dX7_isSo_0 : decode cX7_isSo 0 = .ok (.iload_n 1, 1) := by decide +kernel
theorem dX7_isSo_1 : decode cX7_isSo 1 = .ok (.ifCond .ne 22, 3) := by decide +kernel
theorem dX7_isSo_4 : decode cX7_isSo 4 = .ok (.aload_n 0, 1) := by decide +kernel
theorem dX7_isSo_5 : decode cX7_isSo 5 = .ok (.getfield 179, 3) := by decide +kernel
theorem dX7_isSo_8 : decode cX7_isSo 8 = .ok (.aload_n 0, 1) := by decide +kernel
theorem dX7_isSo_9 : decode cX7_isSo 9 = .ok (.getfield 81, 3) := by decide +kernel
theorem dX7_isSo_12 : decode cX7_isSo 12 = .ok (.iload_n 2, 1) := by decide +kernel
theorem dX7_isSo_13 : decode cX7_isSo 13 = .ok (.iaload, 1) := by decide +kernel
theorem dX7_isSo_14 : decode cX7_isSo 14 = .ok (.if_icmp .gt 7, 3) := by decide +kernel
theorem dX7_isSo_17 : decode cX7_isSo 17 = .ok (.iconst 1, 1) := by decide +kernel
theorem dX7_isSo_18 : decode cX7_isSo 18 = .ok (.goto 4, 3) := by decide +kernel
theorem dX7_isSo_21 : decode cX7_isSo 21 = .ok (.iconst 0, 1) := by decide +kernel
theorem dX7_isSo_22 : decode cX7_isSo 22 = .ok (.ireturn, 1) := by decide +kernel
theorem dX7_isSo_23 : decode cX7_isSo 23 = .ok (.iload_n 1, 1) := by decide +kernel
theorem dX7_isSo_24 : decode cX7_isSo 24 = .ok (.iconst 1, 1) := by decide +kernel
theorem dX7_isSo_25 : decode cX7_isSo 25 = .ok (.if_icmp .ne 35, 3) := by decide +kernel
theorem dX7_isSo_28 : decode cX7_isSo 28 = .ok (.iload_n 2, 1) := by decide +kernel
theorem dX7_isSo_29 : decode cX7_isSo 29 = .ok (.ifCond .ne 17, 3) := by decide +kernel
theorem dX7_isSo_32 : decode cX7_isSo 32 = .ok (.aload_n 0, 1) := by decide +kernel
theorem dX7_isSo_33 : decode cX7_isSo 33 = .ok (.aload_n 0, 1) := by decide +kernel
theorem dX7_isSo_34 : decode cX7_isSo 34 = .ok (.getfield 179, 3) := by decide +kernel
theorem dX7_isSo_37 : decode cX7_isSo 37 = .ok (.iconst 1, 1) := by decide +kernel
theorem dX7_isSo_38 : decode cX7_isSo 38 = .ok (.bipush 9, 2) := by decide +kernel
theorem dX7_isSo_40 : decode cX7_isSo 40 = .ok (.invokevirtual 149, 3) := by decide +kernel
theorem dX7_isSo_43 : decode cX7_isSo 43 = .ok (.goto 16, 3) := by decide +kernel
theorem dX7_isSo_46 : decode cX7_isSo 46 = .ok (.aload_n 0, 1) := by decide +kernel
theorem dX7_isSo_47 : decode cX7_isSo 47 = .ok (.getfield 179, 3) := by decide +kernel
theorem dX7_isSo_50 : decode cX7_isSo 50 = .ok (.iconst 4, 1) := by decide +kernel
theorem dX7_isSo_51 : decode cX7_isSo 51 = .ok (.if_icmp .gt 7, 3) := by decide +kernel
theorem dX7_isSo_54 : decode cX7_isSo 54 = .ok (.iconst 1, 1) := by decide +kernel
theorem dX7_isSo_55 : decode cX7_isSo 55 = .ok (.goto 4, 3) := by decide +kernel
theorem dX7_isSo_58 : decode cX7_isSo 58 = .ok (.iconst 0, 1) := by decide +kernel
theorem dX7_isSo_59 : decode cX7_isSo 59 = .ok (.ireturn, 1) := by decide +kernel
theorem dX7_isSo_60 : decode cX7_isSo 60 = .ok (.iload_n 1, 1) := by decide +kernel
theorem dX7_isSo_61 : decode cX7_isSo 61 = .ok (.iconst 5, 1) := by decide +kernel
theorem dX7_isSo_62 : decode cX7_isSo 62 = .ok (.if_icmp .ne 20, 3) := by decide +kernel
theorem dX7_isSo_65 : decode cX7_isSo 65 = .ok (.aload_n 0, 1) := by decide +kernel
theorem dX7_isSo_66 : decode cX7_isSo 66 = .ok (.getfield 179, 3) := by decide +kernel
theorem dX7_isSo_69 : decode cX7_isSo 69 = .ok (.aload_n 0, 1) := by decide +kernel
theorem dX7_isSo_70 : decode cX7_isSo 70 = .ok (.getfield 132, 3) := by decide +kernel
theorem dX7_isSo_73 : decode cX7_isSo 73 = .ok (.if_icmp .ge 7, 3) := by decide +kernel
theorem dX7_isSo_76 : decode cX7_isSo 76 = .ok (.iconst 1, 1) := by decide +kernel
theorem dX7_isSo_77 : decode cX7_isSo 77 = .ok (.goto 4, 3) := by decide +kernel
theorem dX7_isSo_80 : decode cX7_isSo 80 = .ok (.iconst 0, 1) := by decide +kernel
theorem dX7_isSo_81 : decode cX7_isSo 81 = .ok (.ireturn, 1) := by decide +kernel
theorem dX7_isSo_82 : decode cX7_isSo 82 = .ok (.iload_n 2, 1) := by decide +kernel
theorem dX7_isSo_83 : decode cX7_isSo 83 = .ok (.iconst 1, 1) := by decide +kernel
theorem dX7_isSo_84 : decode cX7_isSo 84 = .ok (.if_icmp .eq 14, 3) := by decide +kernel
theorem dX7_isSo_87 : decode cX7_isSo 87 = .ok (.aload_n 0, 1) := by decide +kernel
theorem dX7_isSo_88 : decode cX7_isSo 88 = .ok (.getfield 179, 3) := by decide +kernel
theorem dX7_isSo_91 : decode cX7_isSo 91 = .ok (.aload_n 0, 1) := by decide +kernel
theorem dX7_isSo_92 : decode cX7_isSo 92 = .ok (.getfield 129, 3) := by decide +kernel
theorem dX7_isSo_95 : decode cX7_isSo 95 = .ok (.if_icmp .ge 7, 3) := by decide +kernel
theorem dX7_isSo_98 : decode cX7_isSo 98 = .ok (.iconst 1, 1) := by decide +kernel
theorem dX7_isSo_99 : decode cX7_isSo 99 = .ok (.goto 4, 3) := by decide +kernel
theorem dX7_isSo_102 : decode cX7_isSo 102 = .ok (.iconst 0, 1) := by decide +kernel
theorem dX7_isSo_103 : decode cX7_isSo 103 = .ok (.ireturn, 1) := by decide +kernel
theorem dX7_item_0 : decode cX7_item 0 = .ok (.aload_n 0, 1) := by decide +kernel
theorem dX7_item_1 : decode cX7_item 1 = .ok (.iconst 0, 1) := by decide +kernel
theorem dX7_item_2 : decode cX7_item 2 = .ok (.invokevirtual 189, 3) := by decide +kernel
theorem dX7_item_5 : decode cX7_item 5 = .ok (.ifCond .eq 12, 3) := by decide +kernel
theorem dX7_item_8 : decode cX7_item 8 = .ok (.aload_n 0, 1) := by decide +kernel
theorem dX7_item_9 : decode cX7_item 9 = .ok (.getfield 129, 3) := by decide +kernel
theorem dX7_item_12 : decode cX7_item 12 = .ok (.bipush 6, 2) := by decide +kernel
theorem dX7_item_14 : decode cX7_item 14 = .ok (.if_icmp .eq 20, 3) := by decide +kernel
theorem dX7_item_17 : decode cX7_item 17 = .ok (.aload_n 0, 1) := by decide +kernel
theorem dX7_item_18 : decode cX7_item 18 = .ok (.iconst 1, 1) := by decide +kernel
theorem dX7_item_19 : decode cX7_item 19 = .ok (.invokevirtual 189, 3) := by decide +kernel
theorem dX7_item_22 : decode cX7_item 22 = .ok (.ifCond .eq 21, 3) := by decide +kernel
theorem dX7_item_25 : decode cX7_item 25 = .ok (.aload_n 0, 1) := by decide +kernel
theorem dX7_item_26 : decode cX7_item 26 = .ok (.getfield 132, 3) := by decide +kernel
theorem dX7_item_29 : decode cX7_item 29 = .ok (.bipush 6, 2) := by decide +kernel
theorem dX7_item_31 : decode cX7_item 31 = .ok (.if_icmp .ne 12, 3) := by decide +kernel
theorem dX7_item_34 : decode cX7_item 34 = .ok (.aload_n 0, 1) := by decide +kernel
theorem dX7_item_35 : decode cX7_item 35 = .ok (.aload_n 0, 1) := by decide +kernel
theorem dX7_item_36 : decode cX7_item 36 = .ok (.getfield 170, 3) := by decide +kernel
theorem dX7_item_39 : decode cX7_item 39 = .ok (.invokevirtual 186, 3) := by decide +kernel
theorem dX7_item_42 : decode cX7_item 42 = .ok (.ireturn, 1) := by decide +kernel
theorem dX7_item_43 : decode cX7_item 43 = .ok (.aload_n 0, 1) := by decide +kernel
theorem dX7_item_44 : decode cX7_item 44 = .ok (.invokevirtual 192, 3) := by decide +kernel
theorem dX7_item_47 : decode cX7_item 47 = .ok (.istore_n 1, 1) := by decide +kernel
theorem dX7_item_48 : decode cX7_item 48 = .ok (.iload_n 1, 1) := by decide +kernel
theorem dX7_item_49 : decode cX7_item 49 = .ok (.iconst (-1), 1) := by decide +kernel
theorem dX7_item_50 : decode cX7_item 50 = .ok (.if_icmp .ne 5, 3) := by decide +kernel
theorem dX7_item_53 : decode cX7_item 53 = .ok (.iconst 0, 1) := by decide +kernel
theorem dX7_item_54 : decode cX7_item 54 = .ok (.ireturn, 1) := by decide +kernel
theorem dX7_item_55 : decode cX7_item 55 = .ok (.iconst 0, 1) := by decide +kernel
theorem dX7_item_56 : decode cX7_item 56 = .ok (.istore_n 2, 1) := by decide +kernel
theorem dX7_item_57 : decode cX7_item 57 = .ok (.iload_n 2, 1) := by decide +kernel
theorem dX7_item_58 : decode cX7_item 58 = .ok (.aload_n 0, 1) := by decide +kernel
theorem dX7_item_59 : decode cX7_item 59 = .ok (.getfield 78, 3) := by decide +kernel
theorem dX7_item_62 : decode cX7_item 62 = .ok (.iload_n 1, 1) := by decide +kernel
theorem dX7_item_63 : decode cX7_item 63 = .ok (.iaload, 1) := by decide +kernel
theorem dX7_item_64 : decode cX7_item 64 = .ok (.if_icmp .ge 102, 3) := by decide +kernel
theorem dX7_item_67 : decode cX7_item 67 = .ok (.iload_n 2, 1) := by decide +kernel
theorem dX7_item_68 : decode cX7_item 68 = .ok (.ifCond .le 53, 3) := by decide +kernel
theorem dX7_item_71 : decode cX7_item 71 = .ok (.aload_n 0, 1) := by decide +kernel
theorem dX7_item_72 : decode cX7_item 72 = .ok (.getfield 170, 3) := by decide +kernel
theorem dX7_item_75 : decode cX7_item 75 = .ok (.aload_n 0, 1) := by decide +kernel
theorem dX7_item_76 : decode cX7_item 76 = .ok (.getfield 173, 3) := by decide +kernel
theorem dX7_item_79 : decode cX7_item 79 = .ok (.if_icmp .ge 23, 3) := by decide +kernel
theorem dX7_item_82 : decode cX7_item 82 = .ok (.aload_n 0, 1) := by decide +kernel
theorem dX7_item_83 : decode cX7_item 83 = .ok (.getfield 68, 3) := by decide +kernel
theorem dX7_item_86 : decode cX7_item 86 = .ok (.aload_n 0, 1) := by decide +kernel
theorem dX7_item_87 : decode cX7_item 87 = .ok (.getfield 176, 3) := by decide +kernel
theorem dX7_item_90 : decode cX7_item 90 = .ok (.aload_n 0, 1) := by decide +kernel
theorem dX7_item_91 : decode cX7_item 91 = .ok (.getfield 170, 3) := by decide +kernel
theorem dX7_item_94 : decode cX7_item 94 = .ok (.iadd, 1) := by decide +kernel
theorem dX7_item_95 : decode cX7_item 95 = .ok (.laload, 1) := by decide +kernel
theorem dX7_item_96 : decode cX7_item 96 = .ok (.l2i, 1) := by decide +kernel
theorem dX7_item_97 : decode cX7_item 97 = .ok (.bipush 32, 2) := by decide +kernel
theorem dX7_item_99 : decode cX7_item 99 = .ok (.if_icmp .eq 12, 3) := by decide +kernel
theorem dX7_item_102 : decode cX7_item 102 = .ok (.aload_n 0, 1) := by decide +kernel
theorem dX7_item_103 : decode cX7_item 103 = .ok (.aload_n 0, 1) := by decide +kernel
theorem dX7_item_104 : decode cX7_item 104 = .ok (.getfield 170, 3) := by decide +kernel
theorem dX7_item_107 : decode cX7_item 107 = .ok (.invokevirtual 186, 3) := by decide +kernel
theorem dX7_item_110 : decode cX7_item 110 = .ok (.ireturn, 1) := by decide +kernel
theorem dX7_item_111 : decode cX7_item 111 = .ok (.aload_n 0, 1) := by decide +kernel
theorem dX7_item_112 : decode cX7_item 112 = .ok (.dup, 1) := by decide +kernel
theorem dX7_item_113 : decode cX7_item 113 = .ok (.getfield 170, 3) := by decide +kernel
theorem dX7_item_116 : decode cX7_item 116 = .ok (.iconst 1, 1) := by decide +kernel
theorem dX7_item_117 : decode cX7_item 117 = .ok (.iadd, 1) := by decide +kernel
theorem dX7_item_118 : decode cX7_item 118 = .ok (.putfield 170, 3) := by decide +kernel
theorem dX7_item_121 : decode cX7_item 121 = .ok (.aload_n 0, 1) := by decide +kernel
theorem dX7_item_122 : decode cX7_item 122 = .ok (.getfield 170, 3) := by decide +kernel
theorem dX7_item_125 : decode cX7_item 125 = .ok (.istore_n 3, 1) := by decide +kernel
theorem dX7_item_126 : decode cX7_item 126 = .ok (.aload_n 0, 1) := by decide +kernel
theorem dX7_item_127 : decode cX7_item 127 = .ok (.invokevirtual 196, 3) := by decide +kernel
theorem dX7_item_130 : decode cX7_item 130 = .ok (.ifCond .ne 5, 3) := by decide +kernel
theorem dX7_item_133 : decode cX7_item 133 = .ok (.iconst 0, 1) := by decide +kernel
theorem dX7_item_134 : decode cX7_item 134 = .ok (.ireturn, 1) := by decide +kernel
theorem dX7_item_135 : decode cX7_item 135 = .ok (.aload_n 0, 1) := by decide +kernel
theorem dX7_item_136 : decode cX7_item 136 = .ok (.iload_n 1, 1) := by decide +kernel
theorem dX7_item_137 : decode cX7_item 137 = .ok (.iload_n 2, 1) := by decide +kernel
theorem dX7_item_138 : decode cX7_item 138 = .ok (.invokevirtual 199, 3) := by decide +kernel
theorem dX7_item_141 : decode cX7_item 141 = .ok (.ifCond .ne 9, 3) := by decide +kernel
theorem dX7_item_144 : decode cX7_item 144 = .ok (.aload_n 0, 1) := by decide +kernel
theorem dX7_item_145 : decode cX7_item 145 = .ok (.iload_n 3, 1) := by decide +kernel
theorem dX7_item_146 : decode cX7_item 146 = .ok (.invokevirtual 186, 3) := by decide +kernel
theorem dX7_item_149 : decode cX7_item 149 = .ok (.ireturn, 1) := by decide +kernel
theorem dX7_item_150 : decode cX7_item 150 = .ok (.aload_n 0, 1) := by decide +kernel
theorem dX7_item_151 : decode cX7_item 151 = .ok (.getfield 84, 3) := by decide +kernel
theorem dX7_item_154 : decode cX7_item 154 = .ok (.iload_n 2, 1) := by decide +kernel
theorem dX7_item_155 : decode cX7_item 155 = .ok (.aload_n 0, 1) := by decide +kernel
theorem dX7_item_156 : decode cX7_item 156 = .ok (.getfield 179, 3) := by decide +kernel
theorem dX7_item_159 : decode cX7_item 159 = .ok (.iastore, 1) := by decide +kernel
theorem dX7_item_160 : decode cX7_item 160 = .ok (.iinc 2 1, 3) := by decide +kernel
theorem dX7_item_163 : decode cX7_item 163 = .ok (.goto (-106), 3) := by decide +kernel
theorem dX7_item_166 : decode cX7_item 166 = .ok (.iload_n 1, 1) := by decide +kernel
theorem dX7_item_167 : decode cX7_item 167 = .ok (.tableswitch 124 0 5 #[37, 69, 89, 124, 124, 109], 37) := by decide +kernel
theorem dX7_item_204 : decode cX7_item 204 = .ok (.aload_n 0, 1) := by decide +kernel
theorem dX7_item_205 : decode cX7_item 205 = .ok (.aload_n 0, 1) := by decide +kernel
theorem dX7_item_206 : decode cX7_item 206 = .ok (.getfield 84, 3) := by decide +kernel
theorem dX7_item_209 : decode cX7_item 209 = .ok (.iconst 0, 1) := by decide +kernel
theorem dX7_item_210 : decode cX7_item 210 = .ok (.iaload, 1) := by decide +kernel
theorem dX7_item_211 : decode cX7_item 211 = .ok (.aload_n 0, 1) := by decide +kernel
theorem dX7_item_212 : decode cX7_item 212 = .ok (.getfield 84, 3) := by decide +kernel
theorem dX7_item_215 : decode cX7_item 215 = .ok (.iconst 1, 1) := by decide +kernel
theorem dX7_item_216 : decode cX7_item 216 = .ok (.iaload, 1) := by decide +kernel
theorem dX7_item_217 : decode cX7_item 217 = .ok (.aload_n 0, 1) := by decide +kernel
theorem dX7_item_218 : decode cX7_item 218 = .ok (.getfield 84, 3) := by decide +kernel
theorem dX7_item_221 : decode cX7_item 221 = .ok (.iconst 2, 1) := by decide +kernel
theorem dX7_item_222 : decode cX7_item 222 = .ok (.iaload, 1) := by decide +kernel
theorem dX7_item_223 : decode cX7_item 223 = .ok (.aload_n 0, 1) := by decide +kernel
theorem dX7_item_224 : decode cX7_item 224 = .ok (.getfield 84, 3) := by decide +kernel
theorem dX7_item_227 : decode cX7_item 227 = .ok (.iconst 3, 1) := by decide +kernel
theorem dX7_item_228 : decode cX7_item 228 = .ok (.iaload, 1) := by decide +kernel
theorem dX7_item_229 : decode cX7_item 229 = .ok (.invokevirtual 153, 3) := by decide +kernel
theorem dX7_item_232 : decode cX7_item 232 = .ok (.pop, 1) := by decide +kernel
theorem dX7_item_233 : decode cX7_item 233 = .ok (.goto 79, 3) := by decide +kernel
theorem dX7_item_236 : decode cX7_item 236 = .ok (.aload_n 0, 1) := by decide +kernel
theorem dX7_item_237 : decode cX7_item 237 = .ok (.aload_n 0, 1) := by decide +kernel
theorem dX7_item_238 : decode cX7_item 238 = .ok (.getfield 84, 3) := by decide +kernel
theorem dX7_item_241 : decode cX7_item 241 = .ok (.iconst 0, 1) := by decide +kernel
theorem dX7_item_242 : decode cX7_item 242 = .ok (.iaload, 1) := by decide +kernel
theorem dX7_item_243 : decode cX7_item 243 = .ok (.aload_n 0, 1) := by decide +kernel
theorem dX7_item_244 : decode cX7_item 244 = .ok (.getfield 84, 3) := by decide +kernel
theorem dX7_item_247 : decode cX7_item 247 = .ok (.iconst 1, 1) := by decide +kernel
theorem dX7_item_248 : decode cX7_item 248 = .ok (.iaload, 1) := by decide +kernel
theorem dX7_item_249 : decode cX7_item 249 = .ok (.invokevirtual 157, 3) := by decide +kernel
theorem dX7_item_252 : decode cX7_item 252 = .ok (.pop, 1) := by decide +kernel
theorem dX7_item_253 : decode cX7_item 253 = .ok (.goto 59, 3) := by decide +kernel
theorem dX7_item_256 : decode cX7_item 256 = .ok (.aload_n 0, 1) := by decide +kernel
theorem dX7_item_257 : decode cX7_item 257 = .ok (.getfield 32, 3) := by decide +kernel
theorem dX7_item_260 : decode cX7_item 260 = .ok (.aload_n 0, 1) := by decide +kernel
theorem dX7_item_261 : decode cX7_item 261 = .ok (.getfield 84, 3) := by decide +kernel
theorem dX7_item_264 : decode cX7_item 264 = .ok (.iconst 0, 1) := by decide +kernel
theorem dX7_item_265 : decode cX7_item 265 = .ok (.iaload, 1) := by decide +kernel
theorem dX7_item_266 : decode cX7_item 266 = .ok (.aload_n 0, 1) := by decide +kernel
theorem dX7_item_267 : decode cX7_item 267 = .ok (.getfield 84, 3) := by decide +kernel
theorem dX7_item_270 : decode cX7_item 270 = .ok (.iconst 1, 1) := by decide +kernel
theorem dX7_item_271 : decode cX7_item 271 = .ok (.iaload, 1) := by decide +kernel
theorem dX7_item_272 : decode cX7_item 272 = .ok (.iastore, 1) := by decide +kernel
theorem dX7_item_273 : decode cX7_item 273 = .ok (.goto 39, 3) := by decide +kernel
theorem dX7_item_276 : decode cX7_item 276 = .ok (.aload_n 0, 1) := by decide +kernel
theorem dX7_item_277 : decode cX7_item 277 = .ok (.getfield 53, 3) := by decide +kernel
theorem dX7_item_280 : decode cX7_item 280 = .ok (.aload_n 0, 1) := by decide +kernel
theorem dX7_item_281 : decode cX7_item 281 = .ok (.getfield 84, 3) := by decide +kernel
theorem dX7_item_284 : decode cX7_item 284 = .ok (.iconst 0, 1) := by decide +kernel
theorem dX7_item_285 : decode cX7_item 285 = .ok (.iaload, 1) := by decide +kernel
theorem dX7_item_286 : decode cX7_item 286 = .ok (.iconst 1, 1) := by decide +kernel
theorem dX7_item_287 : decode cX7_item 287 = .ok (.iastore, 1) := by decide +kernel
theorem dX7_item_288 : decode cX7_item 288 = .ok (.goto 24, 3) := by decide +kernel
theorem dX7_item_291 : decode cX7_item 291 = .ok (.aload_n 0, 1) := by decide +kernel
theorem dX7_item_292 : decode cX7_item 292 = .ok (.getfield 38, 3) := by decide +kernel
theorem dX7_item_295 : decode cX7_item 295 = .ok (.aload_n 0, 1) := by decide +kernel
theorem dX7_item_296 : decode cX7_item 296 = .ok (.getfield 84, 3) := by decide +kernel
theorem dX7_item_299 : decode cX7_item 299 = .ok (.iconst 0, 1) := by decide +kernel
theorem dX7_item_300 : decode cX7_item 300 = .ok (.iaload, 1) := by decide +kernel
theorem dX7_item_301 : decode cX7_item 301 = .ok (.iload_n 1, 1) := by decide +kernel
theorem dX7_item_302 : decode cX7_item 302 = .ok (.iconst 3, 1) := by decide +kernel
theorem dX7_item_303 : decode cX7_item 303 = .ok (.if_icmp .ne 7, 3) := by decide +kernel
theorem dX7_item_306 : decode cX7_item 306 = .ok (.iconst 1, 1) := by decide +kernel
theorem dX7_item_307 : decode cX7_item 307 = .ok (.goto 4, 3) := by decide +kernel
theorem dX7_item_310 : decode cX7_item 310 = .ok (.iconst 0, 1) := by decide +kernel
theorem dX7_item_311 : decode cX7_item 311 = .ok (.iastore, 1) := by decide +kernel
theorem dX7_item_312 : decode cX7_item 312 = .ok (.iconst 1, 1) := by decide +kernel
theorem dX7_item_313 : decode cX7_item 313 = .ok (.ireturn, 1) := by decide +kernel
theorem dX7_carries_0 : decode cX7_carries 0 = .ok (.iconst 0, 1) := by decide +kernel
theorem dX7_carries_1 : decode cX7_carries 1 = .ok (.istore 5, 2) := by decide +kernel
theorem dX7_carries_3 : decode cX7_carries 3 = .ok (.iload 5, 2) := by decide +kernel
theorem dX7_carries_5 : decode cX7_carries 5 = .ok (.bipush 6, 2) := by decide +kernel
theorem dX7_carries_7 : decode cX7_carries 7 = .ok (.if_icmp .ge 37, 3) := by decide +kernel
theorem dX7_carries_10 : decode cX7_carries 10 = .ok (.iload 4, 2) := by decide +kernel
theorem dX7_carries_12 : decode cX7_carries 12 = .ok (.ifCond .eq 16, 3) := by decide +kernel
theorem dX7_carries_15 : decode cX7_carries 15 = .ok (.aload_n 1, 1) := by decide +kernel
theorem dX7_carries_16 : decode cX7_carries 16 = .ok (.iload 5, 2) := by decide +kernel
theorem dX7_carries_18 : decode cX7_carries 18 = .ok (.aload_n 2, 1) := by decide +kernel
theorem dX7_carries_19 : decode cX7_carries 19 = .ok (.iload_n 3, 1) := by decide +kernel
theorem dX7_carries_20 : decode cX7_carries 20 = .ok (.iload 5, 2) := by decide +kernel
theorem dX7_carries_22 : decode cX7_carries 22 = .ok (.iadd, 1) := by decide +kernel
theorem dX7_carries_23 : decode cX7_carries 23 = .ok (.iaload, 1) := by decide +kernel
theorem dX7_carries_24 : decode cX7_carries 24 = .ok (.iastore, 1) := by decide +kernel
theorem dX7_carries_25 : decode cX7_carries 25 = .ok (.goto 13, 3) := by decide +kernel
theorem dX7_carries_28 : decode cX7_carries 28 = .ok (.aload_n 2, 1) := by decide +kernel
theorem dX7_carries_29 : decode cX7_carries 29 = .ok (.iload_n 3, 1) := by decide +kernel
theorem dX7_carries_30 : decode cX7_carries 30 = .ok (.iload 5, 2) := by decide +kernel
theorem dX7_carries_32 : decode cX7_carries 32 = .ok (.iadd, 1) := by decide +kernel
theorem dX7_carries_33 : decode cX7_carries 33 = .ok (.aload_n 1, 1) := by decide +kernel
theorem dX7_carries_34 : decode cX7_carries 34 = .ok (.iload 5, 2) := by decide +kernel
theorem dX7_carries_36 : decode cX7_carries 36 = .ok (.iaload, 1) := by decide +kernel
theorem dX7_carries_37 : decode cX7_carries 37 = .ok (.iastore, 1) := by decide +kernel
theorem dX7_carries_38 : decode cX7_carries 38 = .ok (.iinc 5 1, 3) := by decide +kernel
theorem dX7_carries_41 : decode cX7_carries 41 = .ok (.goto (-38), 3) := by decide +kernel
theorem dX7_carries_44 : decode cX7_carries 44 = .ok (.iload_n 3, 1) := by decide +kernel
theorem dX7_carries_45 : decode cX7_carries 45 = .ok (.bipush 6, 2) := by decide +kernel
theorem dX7_carries_47 : decode cX7_carries 47 = .ok (.iadd, 1) := by decide +kernel
theorem dX7_carries_48 : decode cX7_carries 48 = .ok (.ireturn, 1) := by decide +kernel
theorem dX7_all_0 : decode cX7_all 0 = .ok (.aload_n 0, 1) := by decide +kernel
theorem dX7_all_1 : decode cX7_all 1 = .ok (.aload_n 0, 1) := by decide +kernel
theorem dX7_all_2 : decode cX7_all 2 = .ok (.getfield 20, 3) := by decide +kernel
theorem dX7_all_5 : decode cX7_all 5 = .ok (.aload_n 1, 1) := by decide +kernel
theorem dX7_all_6 : decode cX7_all 6 = .ok (.iconst 0, 1) := by decide +kernel
theorem dX7_all_7 : decode cX7_all 7 = .ok (.iload_n 2, 1) := by decide +kernel
theorem dX7_all_8 : decode cX7_all 8 = .ok (.invokevirtual 203, 3) := by decide +kernel
theorem dX7_all_11 : decode cX7_all 11 = .ok (.istore_n 3, 1) := by decide +kernel
theorem dX7_all_12 : decode cX7_all 12 = .ok (.aload_n 0, 1) := by decide +kernel
theorem dX7_all_13 : decode cX7_all 13 = .ok (.aload_n 0, 1) := by decide +kernel
theorem dX7_all_14 : decode cX7_all 14 = .ok (.getfield 23, 3) := by decide +kernel
theorem dX7_all_17 : decode cX7_all 17 = .ok (.aload_n 1, 1) := by decide +kernel
theorem dX7_all_18 : decode cX7_all 18 = .ok (.iload_n 3, 1) := by decide +kernel
theorem dX7_all_19 : decode cX7_all 19 = .ok (.iload_n 2, 1) := by decide +kernel
theorem dX7_all_20 : decode cX7_all 20 = .ok (.invokevirtual 203, 3) := by decide +kernel
theorem dX7_all_23 : decode cX7_all 23 = .ok (.istore_n 3, 1) := by decide +kernel
theorem dX7_all_24 : decode cX7_all 24 = .ok (.aload_n 0, 1) := by decide +kernel
theorem dX7_all_25 : decode cX7_all 25 = .ok (.aload_n 0, 1) := by decide +kernel
theorem dX7_all_26 : decode cX7_all 26 = .ok (.getfield 26, 3) := by decide +kernel
theorem dX7_all_29 : decode cX7_all 29 = .ok (.aload_n 1, 1) := by decide +kernel
theorem dX7_all_30 : decode cX7_all 30 = .ok (.iload_n 3, 1) := by decide +kernel
theorem dX7_all_31 : decode cX7_all 31 = .ok (.iload_n 2, 1) := by decide +kernel
theorem dX7_all_32 : decode cX7_all 32 = .ok (.invokevirtual 203, 3) := by decide +kernel
theorem dX7_all_35 : decode cX7_all 35 = .ok (.istore_n 3, 1) := by decide +kernel
theorem dX7_all_36 : decode cX7_all 36 = .ok (.aload_n 0, 1) := by decide +kernel
theorem dX7_all_37 : decode cX7_all 37 = .ok (.aload_n 0, 1) := by decide +kernel
theorem dX7_all_38 : decode cX7_all 38 = .ok (.getfield 29, 3) := by decide +kernel
theorem dX7_all_41 : decode cX7_all 41 = .ok (.aload_n 1, 1) := by decide +kernel
theorem dX7_all_42 : decode cX7_all 42 = .ok (.iload_n 3, 1) := by decide +kernel
theorem dX7_all_43 : decode cX7_all 43 = .ok (.iload_n 2, 1) := by decide +kernel
theorem dX7_all_44 : decode cX7_all 44 = .ok (.invokevirtual 203, 3) := by decide +kernel
theorem dX7_all_47 : decode cX7_all 47 = .ok (.istore_n 3, 1) := by decide +kernel
theorem dX7_all_48 : decode cX7_all 48 = .ok (.aload_n 0, 1) := by decide +kernel
theorem dX7_all_49 : decode cX7_all 49 = .ok (.aload_n 0, 1) := by decide +kernel
theorem dX7_all_50 : decode cX7_all 50 = .ok (.getfield 32, 3) := by decide +kernel
theorem dX7_all_53 : decode cX7_all 53 = .ok (.aload_n 1, 1) := by decide +kernel
theorem dX7_all_54 : decode cX7_all 54 = .ok (.iload_n 3, 1) := by decide +kernel
theorem dX7_all_55 : decode cX7_all 55 = .ok (.iload_n 2, 1) := by decide +kernel
theorem dX7_all_56 : decode cX7_all 56 = .ok (.invokevirtual 203, 3) := by decide +kernel
theorem dX7_all_59 : decode cX7_all 59 = .ok (.istore_n 3, 1) := by decide +kernel
theorem dX7_all_60 : decode cX7_all 60 = .ok (.aload_n 0, 1) := by decide +kernel
theorem dX7_all_61 : decode cX7_all 61 = .ok (.aload_n 0, 1) := by decide +kernel
theorem dX7_all_62 : decode cX7_all 62 = .ok (.getfield 35, 3) := by decide +kernel
theorem dX7_all_65 : decode cX7_all 65 = .ok (.aload_n 1, 1) := by decide +kernel
theorem dX7_all_66 : decode cX7_all 66 = .ok (.iload_n 3, 1) := by decide +kernel
theorem dX7_all_67 : decode cX7_all 67 = .ok (.iload_n 2, 1) := by decide +kernel
theorem dX7_all_68 : decode cX7_all 68 = .ok (.invokevirtual 203, 3) := by decide +kernel
theorem dX7_all_71 : decode cX7_all 71 = .ok (.istore_n 3, 1) := by decide +kernel
theorem dX7_all_72 : decode cX7_all 72 = .ok (.aload_n 0, 1) := by decide +kernel
theorem dX7_all_73 : decode cX7_all 73 = .ok (.aload_n 0, 1) := by decide +kernel
theorem dX7_all_74 : decode cX7_all 74 = .ok (.getfield 38, 3) := by decide +kernel
theorem dX7_all_77 : decode cX7_all 77 = .ok (.aload_n 1, 1) := by decide +kernel
theorem dX7_all_78 : decode cX7_all 78 = .ok (.iload_n 3, 1) := by decide +kernel
theorem dX7_all_79 : decode cX7_all 79 = .ok (.iload_n 2, 1) := by decide +kernel
theorem dX7_all_80 : decode cX7_all 80 = .ok (.invokevirtual 203, 3) := by decide +kernel
theorem dX7_all_83 : decode cX7_all 83 = .ok (.istore_n 3, 1) := by decide +kernel
theorem dX7_all_84 : decode cX7_all 84 = .ok (.aload_n 0, 1) := by decide +kernel
theorem dX7_all_85 : decode cX7_all 85 = .ok (.aload_n 0, 1) := by decide +kernel
theorem dX7_all_86 : decode cX7_all 86 = .ok (.getfield 41, 3) := by decide +kernel
theorem dX7_all_89 : decode cX7_all 89 = .ok (.aload_n 1, 1) := by decide +kernel
theorem dX7_all_90 : decode cX7_all 90 = .ok (.iload_n 3, 1) := by decide +kernel
theorem dX7_all_91 : decode cX7_all 91 = .ok (.iload_n 2, 1) := by decide +kernel
theorem dX7_all_92 : decode cX7_all 92 = .ok (.invokevirtual 203, 3) := by decide +kernel
theorem dX7_all_95 : decode cX7_all 95 = .ok (.istore_n 3, 1) := by decide +kernel
theorem dX7_all_96 : decode cX7_all 96 = .ok (.aload_n 0, 1) := by decide +kernel
theorem dX7_all_97 : decode cX7_all 97 = .ok (.aload_n 0, 1) := by decide +kernel
theorem dX7_all_98 : decode cX7_all 98 = .ok (.getfield 44, 3) := by decide +kernel
theorem dX7_all_101 : decode cX7_all 101 = .ok (.aload_n 1, 1) := by decide +kernel
theorem dX7_all_102 : decode cX7_all 102 = .ok (.iload_n 3, 1) := by decide +kernel
theorem dX7_all_103 : decode cX7_all 103 = .ok (.iload_n 2, 1) := by decide +kernel
theorem dX7_all_104 : decode cX7_all 104 = .ok (.invokevirtual 203, 3) := by decide +kernel
theorem dX7_all_107 : decode cX7_all 107 = .ok (.istore_n 3, 1) := by decide +kernel
theorem dX7_all_108 : decode cX7_all 108 = .ok (.aload_n 0, 1) := by decide +kernel
theorem dX7_all_109 : decode cX7_all 109 = .ok (.aload_n 0, 1) := by decide +kernel
theorem dX7_all_110 : decode cX7_all 110 = .ok (.getfield 47, 3) := by decide +kernel
theorem dX7_all_113 : decode cX7_all 113 = .ok (.aload_n 1, 1) := by decide +kernel
theorem dX7_all_114 : decode cX7_all 114 = .ok (.iload_n 3, 1) := by decide +kernel
theorem dX7_all_115 : decode cX7_all 115 = .ok (.iload_n 2, 1) := by decide +kernel
theorem dX7_all_116 : decode cX7_all 116 = .ok (.invokevirtual 203, 3) := by decide +kernel
theorem dX7_all_119 : decode cX7_all 119 = .ok (.istore_n 3, 1) := by decide +kernel
theorem dX7_all_120 : decode cX7_all 120 = .ok (.aload_n 0, 1) := by decide +kernel
theorem dX7_all_121 : decode cX7_all 121 = .ok (.aload_n 0, 1) := by decide +kernel
theorem dX7_all_122 : decode cX7_all 122 = .ok (.getfield 50, 3) := by decide +kernel
theorem dX7_all_125 : decode cX7_all 125 = .ok (.aload_n 1, 1) := by decide +kernel
theorem dX7_all_126 : decode cX7_all 126 = .ok (.iload_n 3, 1) := by decide +kernel
theorem dX7_all_127 : decode cX7_all 127 = .ok (.iload_n 2, 1) := by decide +kernel
theorem dX7_all_128 : decode cX7_all 128 = .ok (.invokevirtual 203, 3) := by decide +kernel
theorem dX7_all_131 : decode cX7_all 131 = .ok (.istore_n 3, 1) := by decide +kernel
theorem dX7_all_132 : decode cX7_all 132 = .ok (.aload_n 0, 1) := by decide +kernel
theorem dX7_all_133 : decode cX7_all 133 = .ok (.aload_n 0, 1) := by decide +kernel
theorem dX7_all_134 : decode cX7_all 134 = .ok (.getfield 53, 3) := by decide +kernel
theorem dX7_all_137 : decode cX7_all 137 = .ok (.aload_n 1, 1) := by decide +kernel
theorem dX7_all_138 : decode cX7_all 138 = .ok (.iload_n 3, 1) := by decide +kernel
theorem dX7_all_139 : decode cX7_all 139 = .ok (.iload_n 2, 1) := by decide +kernel
theorem dX7_all_140 : decode cX7_all 140 = .ok (.invokevirtual 203, 3) := by decide +kernel
theorem dX7_all_143 : decode cX7_all 143 = .ok (.istore_n 3, 1) := by decide +kernel
theorem dX7_all_144 : decode cX7_all 144 = .ok (.iload_n 2, 1) := by decide +kernel
theorem dX7_all_145 : decode cX7_all 145 = .ok (.ifCond .eq 40, 3) := by decide +kernel
theorem dX7_all_148 : decode cX7_all 148 = .ok (.aload_n 0, 1) := by decide +kernel
theorem dX7_all_149 : decode cX7_all 149 = .ok (.aload_n 1, 1) := by decide +kernel
theorem dX7_all_150 : decode cX7_all 150 = .ok (.iload_n 3, 1) := by decide +kernel
theorem dX7_all_151 : decode cX7_all 151 = .ok (.iaload, 1) := by decide +kernel
theorem dX7_all_152 : decode cX7_all 152 = .ok (.putfield 129, 3) := by decide +kernel
theorem dX7_all_155 : decode cX7_all 155 = .ok (.aload_n 0, 1) := by decide +kernel
theorem dX7_all_156 : decode cX7_all 156 = .ok (.aload_n 1, 1) := by decide +kernel
theorem dX7_all_157 : decode cX7_all 157 = .ok (.iload_n 3, 1) := by decide +kernel
theorem dX7_all_158 : decode cX7_all 158 = .ok (.iconst 1, 1) := by decide +kernel
theorem dX7_all_159 : decode cX7_all 159 = .ok (.iadd, 1) := by decide +kernel
theorem dX7_all_160 : decode cX7_all 160 = .ok (.iaload, 1) := by decide +kernel
theorem dX7_all_161 : decode cX7_all 161 = .ok (.putfield 132, 3) := by decide +kernel
theorem dX7_all_164 : decode cX7_all 164 = .ok (.aload_n 0, 1) := by decide +kernel
theorem dX7_all_165 : decode cX7_all 165 = .ok (.aload_n 1, 1) := by decide +kernel
theorem dX7_all_166 : decode cX7_all 166 = .ok (.iload_n 3, 1) := by decide +kernel
theorem dX7_all_167 : decode cX7_all 167 = .ok (.iconst 2, 1) := by decide +kernel
theorem dX7_all_168 : decode cX7_all 168 = .ok (.iadd, 1) := by decide +kernel
theorem dX7_all_169 : decode cX7_all 169 = .ok (.iaload, 1) := by decide +kernel
theorem dX7_all_170 : decode cX7_all 170 = .ok (.putfield 207, 3) := by decide +kernel
theorem dX7_all_173 : decode cX7_all 173 = .ok (.aload_n 0, 1) := by decide +kernel
theorem dX7_all_174 : decode cX7_all 174 = .ok (.aload_n 1, 1) := by decide +kernel
theorem dX7_all_175 : decode cX7_all 175 = .ok (.iload_n 3, 1) := by decide +kernel
theorem dX7_all_176 : decode cX7_all 176 = .ok (.iconst 3, 1) := by decide +kernel
theorem dX7_all_177 : decode cX7_all 177 = .ok (.iadd, 1) := by decide +kernel
theorem dX7_all_178 : decode cX7_all 178 = .ok (.iaload, 1) := by decide +kernel
theorem dX7_all_179 : decode cX7_all 179 = .ok (.putfield 7, 3) := by decide +kernel
theorem dX7_all_182 : decode cX7_all 182 = .ok (.goto 37, 3) := by decide +kernel
theorem dX7_all_185 : decode cX7_all 185 = .ok (.aload_n 1, 1) := by decide +kernel
theorem dX7_all_186 : decode cX7_all 186 = .ok (.iload_n 3, 1) := by decide +kernel
theorem dX7_all_187 : decode cX7_all 187 = .ok (.aload_n 0, 1) := by decide +kernel
theorem dX7_all_188 : decode cX7_all 188 = .ok (.getfield 129, 3) := by decide +kernel
theorem dX7_all_191 : decode cX7_all 191 = .ok (.iastore, 1) := by decide +kernel
theorem dX7_all_192 : decode cX7_all 192 = .ok (.aload_n 1, 1) := by decide +kernel
theorem dX7_all_193 : decode cX7_all 193 = .ok (.iload_n 3, 1) := by decide +kernel
theorem dX7_all_194 : decode cX7_all 194 = .ok (.iconst 1, 1) := by decide +kernel
theorem dX7_all_195 : decode cX7_all 195 = .ok (.iadd, 1) := by decide +kernel
theorem dX7_all_196 : decode cX7_all 196 = .ok (.aload_n 0, 1) := by decide +kernel
theorem dX7_all_197 : decode cX7_all 197 = .ok (.getfield 132, 3) := by decide +kernel
theorem dX7_all_200 : decode cX7_all 200 = .ok (.iastore, 1) := by decide +kernel
theorem dX7_all_201 : decode cX7_all 201 = .ok (.aload_n 1, 1) := by decide +kernel
theorem dX7_all_202 : decode cX7_all 202 = .ok (.iload_n 3, 1) := by decide +kernel
theorem dX7_all_203 : decode cX7_all 203 = .ok (.iconst 2, 1) := by decide +kernel
theorem dX7_all_204 : decode cX7_all 204 = .ok (.iadd, 1) := by decide +kernel
theorem dX7_all_205 : decode cX7_all 205 = .ok (.aload_n 0, 1) := by decide +kernel
theorem dX7_all_206 : decode cX7_all 206 = .ok (.getfield 207, 3) := by decide +kernel
theorem dX7_all_209 : decode cX7_all 209 = .ok (.iastore, 1) := by decide +kernel
theorem dX7_all_210 : decode cX7_all 210 = .ok (.aload_n 1, 1) := by decide +kernel
theorem dX7_all_211 : decode cX7_all 211 = .ok (.iload_n 3, 1) := by decide +kernel
theorem dX7_all_212 : decode cX7_all 212 = .ok (.iconst 3, 1) := by decide +kernel
theorem dX7_all_213 : decode cX7_all 213 = .ok (.iadd, 1) := by decide +kernel
theorem dX7_all_214 : decode cX7_all 214 = .ok (.aload_n 0, 1) := by decide +kernel
theorem dX7_all_215 : decode cX7_all 215 = .ok (.getfield 7, 3) := by decide +kernel
theorem dX7_all_218 : decode cX7_all 218 = .ok (.iastore, 1) := by decide +kernel
theorem dX7_all_219 : decode cX7_all 219 = .ok (.return_, 1) := by decide +kernel
theorem dX7_city_0 : decode cX7_city 0 = .ok (.aload_n 0, 1) := by decide +kernel
theorem dX7_city_1 : decode cX7_city 1 = .ok (.iload_n 1, 1) := by decide +kernel
theorem dX7_city_2 : decode cX7_city 2 = .ok (.invokevirtual 210, 3) := by decide +kernel
theorem dX7_city_5 : decode cX7_city 5 = .ok (.istore_n 2, 1) := by decide +kernel
theorem dX7_city_6 : decode cX7_city 6 = .ok (.iload_n 2, 1) := by decide +kernel
theorem dX7_city_7 : decode cX7_city 7 = .ok (.ifCond .eq 9, 3) := by decide +kernel
theorem dX7_city_10 : decode cX7_city 10 = .ok (.aload_n 0, 1) := by decide +kernel
theorem dX7_city_11 : decode cX7_city 11 = .ok (.iload_n 2, 1) := by decide +kernel
theorem dX7_city_12 : decode cX7_city 12 = .ok (.invokevirtual 139, 3) := by decide +kernel
theorem dX7_city_15 : decode cX7_city 15 = .ok (.ireturn, 1) := by decide +kernel
theorem dX7_city_16 : decode cX7_city 16 = .ok (.aload_n 0, 1) := by decide +kernel
theorem dX7_city_17 : decode cX7_city 17 = .ok (.aload_n 0, 1) := by decide +kernel
theorem dX7_city_18 : decode cX7_city 18 = .ok (.getfield 87, 3) := by decide +kernel
theorem dX7_city_21 : decode cX7_city 21 = .ok (.iconst 0, 1) := by decide +kernel
theorem dX7_city_22 : decode cX7_city 22 = .ok (.invokevirtual 213, 3) := by decide +kernel
theorem dX7_city_25 : decode cX7_city 25 = .ok (.aload_n 0, 1) := by decide +kernel
theorem dX7_city_26 : decode cX7_city 26 = .ok (.sipush 160, 3) := by decide +kernel
theorem dX7_city_29 : decode cX7_city 29 = .ok (.iload_n 1, 1) := by decide +kernel
theorem dX7_city_30 : decode cX7_city 30 = .ok (.imul, 1) := by decide +kernel
theorem dX7_city_31 : decode cX7_city 31 = .ok (.putfield 176, 3) := by decide +kernel
theorem dX7_city_34 : decode cX7_city 34 = .ok (.aload_n 0, 1) := by decide +kernel
theorem dX7_city_35 : decode cX7_city 35 = .ok (.iconst 0, 1) := by decide +kernel
theorem dX7_city_36 : decode cX7_city 36 = .ok (.putfield 170, 3) := by decide +kernel
theorem dX7_city_39 : decode cX7_city 39 = .ok (.aload_n 0, 1) := by decide +kernel
theorem dX7_city_40 : decode cX7_city 40 = .ok (.aload_n 0, 1) := by decide +kernel
theorem dX7_city_41 : decode cX7_city 41 = .ok (.getfield 62, 3) := by decide +kernel
theorem dX7_city_44 : decode cX7_city 44 = .ok (.iload_n 1, 1) := by decide +kernel
theorem dX7_city_45 : decode cX7_city 45 = .ok (.iaload, 1) := by decide +kernel
theorem dX7_city_46 : decode cX7_city 46 = .ok (.putfield 173, 3) := by decide +kernel
theorem dX7_city_49 : decode cX7_city 49 = .ok (.aload_n 0, 1) := by decide +kernel
theorem dX7_city_50 : decode cX7_city 50 = .ok (.iconst (-1), 1) := by decide +kernel
theorem dX7_city_51 : decode cX7_city 51 = .ok (.putfield 13, 3) := by decide +kernel
theorem dX7_city_54 : decode cX7_city 54 = .ok (.iconst 1, 1) := by decide +kernel
theorem dX7_city_55 : decode cX7_city 55 = .ok (.istore_n 3, 1) := by decide +kernel
theorem dX7_city_56 : decode cX7_city 56 = .ok (.aload_n 0, 1) := by decide +kernel
theorem dX7_city_57 : decode cX7_city 57 = .ok (.invokevirtual 217, 3) := by decide +kernel
theorem dX7_city_60 : decode cX7_city 60 = .ok (.istore 4, 2) := by decide +kernel
theorem dX7_city_62 : decode cX7_city 62 = .ok (.iload 4, 2) := by decide +kernel
theorem dX7_city_64 : decode cX7_city 64 = .ok (.ifCond .eq 69, 3) := by decide +kernel
theorem dX7_city_67 : decode cX7_city 67 = .ok (.aload_n 0, 1) := by decide +kernel
theorem dX7_city_68 : decode cX7_city 68 = .ok (.getfield 170, 3) := by decide +kernel
theorem dX7_city_71 : decode cX7_city 71 = .ok (.aload_n 0, 1) := by decide +kernel
theorem dX7_city_72 : decode cX7_city 72 = .ok (.getfield 173, 3) := by decide +kernel
theorem dX7_city_75 : decode cX7_city 75 = .ok (.if_icmp .ge 58, 3) := by decide +kernel
theorem dX7_city_78 : decode cX7_city 78 = .ok (.aload_n 0, 1) := by decide +kernel
theorem dX7_city_79 : decode cX7_city 79 = .ok (.getfield 68, 3) := by decide +kernel
theorem dX7_city_82 : decode cX7_city 82 = .ok (.aload_n 0, 1) := by decide +kernel
theorem dX7_city_83 : decode cX7_city 83 = .ok (.getfield 176, 3) := by decide +kernel
theorem dX7_city_86 : decode cX7_city 86 = .ok (.aload_n 0, 1) := by decide +kernel
theorem dX7_city_87 : decode cX7_city 87 = .ok (.getfield 170, 3) := by decide +kernel
theorem dX7_city_90 : decode cX7_city 90 = .ok (.iadd, 1) := by decide +kernel
theorem dX7_city_91 : decode cX7_city 91 = .ok (.laload, 1) := by decide +kernel
theorem dX7_city_92 : decode cX7_city 92 = .ok (.l2i, 1) := by decide +kernel
theorem dX7_city_93 : decode cX7_city 93 = .ok (.bipush 59, 2) := by decide +kernel
theorem dX7_city_95 : decode cX7_city 95 = .ok (.if_icmp .eq 16, 3) := by decide +kernel
theorem dX7_city_98 : decode cX7_city 98 = .ok (.aload_n 0, 1) := by decide +kernel
theorem dX7_city_99 : decode cX7_city 99 = .ok (.aload_n 0, 1) := by decide +kernel
theorem dX7_city_100 : decode cX7_city 100 = .ok (.getfield 170, 3) := by decide +kernel
theorem dX7_city_103 : decode cX7_city 103 = .ok (.invokevirtual 186, 3) := by decide +kernel
theorem dX7_city_106 : decode cX7_city 106 = .ok (.istore 4, 2) := by decide +kernel
theorem dX7_city_108 : decode cX7_city 108 = .ok (.goto (-46), 3) := by decide +kernel
theorem dX7_city_111 : decode cX7_city 111 = .ok (.aload_n 0, 1) := by decide +kernel
theorem dX7_city_112 : decode cX7_city 112 = .ok (.dup, 1) := by decide +kernel
theorem dX7_city_113 : decode cX7_city 113 = .ok (.getfield 170, 3) := by decide +kernel
theorem dX7_city_116 : decode cX7_city 116 = .ok (.iconst 1, 1) := by decide +kernel
theorem dX7_city_117 : decode cX7_city 117 = .ok (.iadd, 1) := by decide +kernel
theorem dX7_city_118 : decode cX7_city 118 = .ok (.putfield 170, 3) := by decide +kernel
theorem dX7_city_121 : decode cX7_city 121 = .ok (.iinc 3 1, 3) := by decide +kernel
theorem dX7_city_124 : decode cX7_city 124 = .ok (.aload_n 0, 1) := by decide +kernel
theorem dX7_city_125 : decode cX7_city 125 = .ok (.invokevirtual 217, 3) := by decide +kernel
theorem dX7_city_128 : decode cX7_city 128 = .ok (.istore 4, 2) := by decide +kernel
theorem dX7_city_130 : decode cX7_city 130 = .ok (.goto (-68), 3) := by decide +kernel
theorem dX7_city_133 : decode cX7_city 133 = .ok (.iload 4, 2) := by decide +kernel
theorem dX7_city_135 : decode cX7_city 135 = .ok (.ifCond .eq 5, 3) := by decide +kernel
theorem dX7_city_138 : decode cX7_city 138 = .ok (.iload_n 3, 1) := by decide +kernel
theorem dX7_city_139 : decode cX7_city 139 = .ok (.ireturn, 1) := by decide +kernel
theorem dX7_city_140 : decode cX7_city 140 = .ok (.aload_n 0, 1) := by decide +kernel
theorem dX7_city_141 : decode cX7_city 141 = .ok (.aload_n 0, 1) := by decide +kernel
theorem dX7_city_142 : decode cX7_city 142 = .ok (.getfield 87, 3) := by decide +kernel
theorem dX7_city_145 : decode cX7_city 145 = .ok (.iconst 1, 1) := by decide +kernel
theorem dX7_city_146 : decode cX7_city 146 = .ok (.invokevirtual 213, 3) := by decide +kernel
theorem dX7_city_149 : decode cX7_city 149 = .ok (.aload_n 0, 1) := by decide +kernel
theorem dX7_city_150 : decode cX7_city 150 = .ok (.aload_n 0, 1) := by decide +kernel
theorem dX7_city_151 : decode cX7_city 151 = .ok (.getfield 167, 3) := by decide +kernel
theorem dX7_city_154 : decode cX7_city 154 = .ok (.putfield 13, 3) := by decide +kernel
theorem dX7_city_157 : decode cX7_city 157 = .ok (.aload_n 0, 1) := by decide +kernel
theorem dX7_city_158 : decode cX7_city 158 = .ok (.bipush (-6), 2) := by decide +kernel
theorem dX7_city_160 : decode cX7_city 160 = .ok (.invokevirtual 139, 3) := by decide +kernel
theorem dX7_city_163 : decode cX7_city 163 = .ok (.ireturn, 1) := by decide +kernel
theorem dX7_fault_0 : decode cX7_fault 0 = .ok (.aload_n 0, 1) := by decide +kernel
theorem dX7_fault_1 : decode cX7_fault 1 = .ok (.getfield 13, 3) := by decide +kernel
theorem dX7_fault_4 : decode cX7_fault 4 = .ok (.ireturn, 1) := by decide +kernel
theorem dX7_face_0 : decode cX7_face 0 = .ok (.aload_n 0, 1) := by decide +kernel
theorem dX7_face_1 : decode cX7_face 1 = .ok (.getfield 29, 3) := by decide +kernel
theorem dX7_face_4 : decode cX7_face 4 = .ok (.iload_n 1, 1) := by decide +kernel
theorem dX7_face_5 : decode cX7_face 5 = .ok (.iaload, 1) := by decide +kernel
theorem dX7_face_6 : decode cX7_face 6 = .ok (.aload_n 0, 1) := by decide +kernel
theorem dX7_face_7 : decode cX7_face 7 = .ok (.getfield 32, 3) := by decide +kernel
theorem dX7_face_10 : decode cX7_face 10 = .ok (.iload_n 1, 1) := by decide +kernel
theorem dX7_face_11 : decode cX7_face 11 = .ok (.iaload, 1) := by decide +kernel
theorem dX7_face_12 : decode cX7_face 12 = .ok (.bipush 10, 2) := by decide +kernel
theorem dX7_face_14 : decode cX7_face 14 = .ok (.idiv, 1) := by decide +kernel
theorem dX7_face_15 : decode cX7_face 15 = .ok (.isub, 1) := by decide +kernel
theorem dX7_face_16 : decode cX7_face 16 = .ok (.istore_n 2, 1) := by decide +kernel
theorem dX7_face_17 : decode cX7_face 17 = .ok (.aload_n 0, 1) := by decide +kernel
theorem dX7_face_18 : decode cX7_face 18 = .ok (.getfield 20, 3) := by decide +kernel
theorem dX7_face_21 : decode cX7_face 21 = .ok (.iload_n 1, 1) := by decide +kernel
theorem dX7_face_22 : decode cX7_face 22 = .ok (.iaload, 1) := by decide +kernel
theorem dX7_face_23 : decode cX7_face 23 = .ok (.tableswitch 132 1 6 #[37, 56, 63, 93, 105, 77], 37) := by decide +kernel
theorem dX7_face_60 : decode cX7_face 60 = .ok (.aload_n 0, 1) := by decide +kernel
theorem dX7_face_61 : decode cX7_face 61 = .ok (.getfield 29, 3) := by decide +kernel
theorem dX7_face_64 : decode cX7_face 64 = .ok (.iload_n 1, 1) := by decide +kernel
theorem dX7_face_65 : decode cX7_face 65 = .ok (.iaload, 1) := by decide +kernel
theorem dX7_face_66 : decode cX7_face 66 = .ok (.aload_n 0, 1) := by decide +kernel
theorem dX7_face_67 : decode cX7_face 67 = .ok (.getfield 32, 3) := by decide +kernel
theorem dX7_face_70 : decode cX7_face 70 = .ok (.iload_n 1, 1) := by decide +kernel
theorem dX7_face_71 : decode cX7_face 71 = .ok (.iaload, 1) := by decide +kernel
theorem dX7_face_72 : decode cX7_face 72 = .ok (.iconst 5, 1) := by decide +kernel
theorem dX7_face_73 : decode cX7_face 73 = .ok (.idiv, 1) := by decide +kernel
theorem dX7_face_74 : decode cX7_face 74 = .ok (.isub, 1) := by decide +kernel
theorem dX7_face_75 : decode cX7_face 75 = .ok (.istore_n 3, 1) := by decide +kernel
theorem dX7_face_76 : decode cX7_face 76 = .ok (.goto 81, 3) := by decide +kernel
theorem dX7_face_79 : decode cX7_face 79 = .ok (.iload_n 2, 1) := by decide +kernel
theorem dX7_face_80 : decode cX7_face 80 = .ok (.iconst 2, 1) := by decide +kernel
theorem dX7_face_81 : decode cX7_face 81 = .ok (.idiv, 1) := by decide +kernel
theorem dX7_face_82 : decode cX7_face 82 = .ok (.istore_n 3, 1) := by decide +kernel
theorem dX7_face_83 : decode cX7_face 83 = .ok (.goto 74, 3) := by decide +kernel
theorem dX7_face_86 : decode cX7_face 86 = .ok (.iload_n 2, 1) := by decide +kernel
theorem dX7_face_87 : decode cX7_face 87 = .ok (.iconst 2, 1) := by decide +kernel
theorem dX7_face_88 : decode cX7_face 88 = .ok (.idiv, 1) := by decide +kernel
theorem dX7_face_89 : decode cX7_face 89 = .ok (.aload_n 0, 1) := by decide +kernel
theorem dX7_face_90 : decode cX7_face 90 = .ok (.getfield 23, 3) := by decide +kernel
theorem dX7_face_93 : decode cX7_face 93 = .ok (.iload_n 1, 1) := by decide +kernel
theorem dX7_face_94 : decode cX7_face 94 = .ok (.iaload, 1) := by decide +kernel
theorem dX7_face_95 : decode cX7_face 95 = .ok (.iadd, 1) := by decide +kernel
theorem dX7_face_96 : decode cX7_face 96 = .ok (.istore_n 3, 1) := by decide +kernel
theorem dX7_face_97 : decode cX7_face 97 = .ok (.goto 60, 3) := by decide +kernel
theorem dX7_face_100 : decode cX7_face 100 = .ok (.iload_n 2, 1) := by decide +kernel
theorem dX7_face_101 : decode cX7_face 101 = .ok (.iconst 2, 1) := by decide +kernel
theorem dX7_face_102 : decode cX7_face 102 = .ok (.idiv, 1) := by decide +kernel
theorem dX7_face_103 : decode cX7_face 103 = .ok (.aload_n 0, 1) := by decide +kernel
theorem dX7_face_104 : decode cX7_face 104 = .ok (.getfield 23, 3) := by decide +kernel
theorem dX7_face_107 : decode cX7_face 107 = .ok (.iload_n 1, 1) := by decide +kernel
theorem dX7_face_108 : decode cX7_face 108 = .ok (.iaload, 1) := by decide +kernel
theorem dX7_face_109 : decode cX7_face 109 = .ok (.iadd, 1) := by decide +kernel
theorem dX7_face_110 : decode cX7_face 110 = .ok (.iconst 3, 1) := by decide +kernel
theorem dX7_face_111 : decode cX7_face 111 = .ok (.isub, 1) := by decide +kernel
theorem dX7_face_112 : decode cX7_face 112 = .ok (.istore_n 3, 1) := by decide +kernel
theorem dX7_face_113 : decode cX7_face 113 = .ok (.goto 44, 3) := by decide +kernel
theorem dX7_face_116 : decode cX7_face 116 = .ok (.iload_n 2, 1) := by decide +kernel
theorem dX7_face_117 : decode cX7_face 117 = .ok (.aload_n 0, 1) := by decide +kernel
theorem dX7_face_118 : decode cX7_face 118 = .ok (.getfield 35, 3) := by decide +kernel
theorem dX7_face_121 : decode cX7_face 121 = .ok (.iload_n 1, 1) := by decide +kernel
theorem dX7_face_122 : decode cX7_face 122 = .ok (.iaload, 1) := by decide +kernel
theorem dX7_face_123 : decode cX7_face 123 = .ok (.iadd, 1) := by decide +kernel
theorem dX7_face_124 : decode cX7_face 124 = .ok (.istore_n 3, 1) := by decide +kernel
theorem dX7_face_125 : decode cX7_face 125 = .ok (.goto 32, 3) := by decide +kernel
theorem dX7_face_128 : decode cX7_face 128 = .ok (.iload_n 2, 1) := by decide +kernel
theorem dX7_face_129 : decode cX7_face 129 = .ok (.aload_n 0, 1) := by decide +kernel
theorem dX7_face_130 : decode cX7_face 130 = .ok (.getfield 35, 3) := by decide +kernel
theorem dX7_face_133 : decode cX7_face 133 = .ok (.iload_n 1, 1) := by decide +kernel
theorem dX7_face_134 : decode cX7_face 134 = .ok (.iaload, 1) := by decide +kernel
theorem dX7_face_135 : decode cX7_face 135 = .ok (.iadd, 1) := by decide +kernel
theorem dX7_face_136 : decode cX7_face 136 = .ok (.aload_n 0, 1) := by decide +kernel
theorem dX7_face_137 : decode cX7_face 137 = .ok (.getfield 26, 3) := by decide +kernel
theorem dX7_face_140 : decode cX7_face 140 = .ok (.iload_n 1, 1) := by decide +kernel
theorem dX7_face_141 : decode cX7_face 141 = .ok (.iaload, 1) := by decide +kernel
theorem dX7_face_142 : decode cX7_face 142 = .ok (.ifCond .ne 7, 3) := by decide +kernel
theorem dX7_face_145 : decode cX7_face 145 = .ok (.iconst 1, 1) := by decide +kernel
theorem dX7_face_146 : decode cX7_face 146 = .ok (.goto 4, 3) := by decide +kernel
theorem dX7_face_149 : decode cX7_face 149 = .ok (.iconst 0, 1) := by decide +kernel
theorem dX7_face_150 : decode cX7_face 150 = .ok (.iadd, 1) := by decide +kernel
theorem dX7_face_151 : decode cX7_face 151 = .ok (.istore_n 3, 1) := by decide +kernel
theorem dX7_face_152 : decode cX7_face 152 = .ok (.goto 5, 3) := by decide +kernel
theorem dX7_face_155 : decode cX7_face 155 = .ok (.iload_n 2, 1) := by decide +kernel
theorem dX7_face_156 : decode cX7_face 156 = .ok (.istore_n 3, 1) := by decide +kernel
theorem dX7_face_157 : decode cX7_face 157 = .ok (.iload_n 3, 1) := by decide +kernel
theorem dX7_face_158 : decode cX7_face 158 = .ok (.ifCond .ge 7, 3) := by decide +kernel
theorem dX7_face_161 : decode cX7_face 161 = .ok (.iconst 0, 1) := by decide +kernel
theorem dX7_face_162 : decode cX7_face 162 = .ok (.goto 15, 3) := by decide +kernel
theorem dX7_face_165 : decode cX7_face 165 = .ok (.iload_n 3, 1) := by decide +kernel
theorem dX7_face_166 : decode cX7_face 166 = .ok (.bipush 30, 2) := by decide +kernel
theorem dX7_face_168 : decode cX7_face 168 = .ok (.if_icmp .le 8, 3) := by decide +kernel
theorem dX7_face_171 : decode cX7_face 171 = .ok (.bipush 30, 2) := by decide +kernel
theorem dX7_face_173 : decode cX7_face 173 = .ok (.goto 4, 3) := by decide +kernel
theorem dX7_face_176 : decode cX7_face 176 = .ok (.iload_n 3, 1) := by decide +kernel
theorem dX7_face_177 : decode cX7_face 177 = .ok (.ireturn, 1) := by decide +kernel
theorem dX7_bestFace_0 : decode cX7_bestFace 0 = .ok (.iconst (-1), 1) := by decide +kernel
theorem dX7_bestFace_1 : decode cX7_bestFace 1 = .ok (.istore_n 3, 1) := by decide +kernel
theorem dX7_bestFace_2 : decode cX7_bestFace 2 = .ok (.iconst 0, 1) := by decide +kernel
theorem dX7_bestFace_3 : decode cX7_bestFace 3 = .ok (.istore 4, 2) := by decide +kernel
theorem dX7_bestFace_5 : decode cX7_bestFace 5 = .ok (.iload 4, 2) := by decide +kernel
theorem dX7_bestFace_7 : decode cX7_bestFace 7 = .ok (.aload_n 0, 1) := by decide +kernel
theorem dX7_bestFace_8 : decode cX7_bestFace 8 = .ok (.getfield 129, 3) := by decide +kernel
theorem dX7_bestFace_11 : decode cX7_bestFace 11 = .ok (.if_icmp .ge 116, 3) := by decide +kernel
theorem dX7_bestFace_14 : decode cX7_bestFace 14 = .ok (.aload_n 0, 1) := by decide +kernel
theorem dX7_bestFace_15 : decode cX7_bestFace 15 = .ok (.getfield 38, 3) := by decide +kernel
theorem dX7_bestFace_18 : decode cX7_bestFace 18 = .ok (.iload 4, 2) := by decide +kernel
theorem dX7_bestFace_20 : decode cX7_bestFace 20 = .ok (.iaload, 1) := by decide +kernel
theorem dX7_bestFace_21 : decode cX7_bestFace 21 = .ok (.iconst 1, 1) := by decide +kernel
theorem dX7_bestFace_22 : decode cX7_bestFace 22 = .ok (.if_icmp .ne 6, 3) := by decide +kernel
theorem dX7_bestFace_25 : decode cX7_bestFace 25 = .ok (.goto 96, 3) := by decide +kernel
theorem dX7_bestFace_28 : decode cX7_bestFace 28 = .ok (.iload_n 3, 1) := by decide +kernel
theorem dX7_bestFace_29 : decode cX7_bestFace 29 = .ok (.iconst (-1), 1) := by decide +kernel
theorem dX7_bestFace_30 : decode cX7_bestFace 30 = .ok (.if_icmp .eq 23, 3) := by decide +kernel
theorem dX7_bestFace_33 : decode cX7_bestFace 33 = .ok (.iload_n 1, 1) := by decide +kernel
theorem dX7_bestFace_34 : decode cX7_bestFace 34 = .ok (.ifCond .eq 25, 3) := by decide +kernel
theorem dX7_bestFace_37 : decode cX7_bestFace 37 = .ok (.aload_n 0, 1) := by decide +kernel
theorem dX7_bestFace_38 : decode cX7_bestFace 38 = .ok (.getfield 102, 3) := by decide +kernel
theorem dX7_bestFace_41 : decode cX7_bestFace 41 = .ok (.iload 4, 2) := by decide +kernel
theorem dX7_bestFace_43 : decode cX7_bestFace 43 = .ok (.iaload, 1) := by decide +kernel
theorem dX7_bestFace_44 : decode cX7_bestFace 44 = .ok (.aload_n 0, 1) := by decide +kernel
theorem dX7_bestFace_45 : decode cX7_bestFace 45 = .ok (.getfield 102, 3) := by decide +kernel
theorem dX7_bestFace_48 : decode cX7_bestFace 48 = .ok (.iload_n 3, 1) := by decide +kernel
theorem dX7_bestFace_49 : decode cX7_bestFace 49 = .ok (.iaload, 1) := by decide +kernel
theorem dX7_bestFace_50 : decode cX7_bestFace 50 = .ok (.if_icmp .ge 9, 3) := by decide +kernel
theorem dX7_bestFace_53 : decode cX7_bestFace 53 = .ok (.iload 4, 2) := by decide +kernel
theorem dX7_bestFace_55 : decode cX7_bestFace 55 = .ok (.istore_n 3, 1) := by decide +kernel
theorem dX7_bestFace_56 : decode cX7_bestFace 56 = .ok (.goto 65, 3) := by decide +kernel
theorem dX7_bestFace_59 : decode cX7_bestFace 59 = .ok (.iload_n 1, 1) := by decide +kernel
theorem dX7_bestFace_60 : decode cX7_bestFace 60 = .ok (.ifCond .eq 19, 3) := by decide +kernel
theorem dX7_bestFace_63 : decode cX7_bestFace 63 = .ok (.aload_n 0, 1) := by decide +kernel
theorem dX7_bestFace_64 : decode cX7_bestFace 64 = .ok (.getfield 102, 3) := by decide +kernel
theorem dX7_bestFace_67 : decode cX7_bestFace 67 = .ok (.iload 4, 2) := by decide +kernel
theorem dX7_bestFace_69 : decode cX7_bestFace 69 = .ok (.iaload, 1) := by decide +kernel
theorem dX7_bestFace_70 : decode cX7_bestFace 70 = .ok (.aload_n 0, 1) := by decide +kernel
theorem dX7_bestFace_71 : decode cX7_bestFace 71 = .ok (.getfield 102, 3) := by decide +kernel
theorem dX7_bestFace_74 : decode cX7_bestFace 74 = .ok (.iload_n 3, 1) := by decide +kernel
theorem dX7_bestFace_75 : decode cX7_bestFace 75 = .ok (.iaload, 1) := by decide +kernel
theorem dX7_bestFace_76 : decode cX7_bestFace 76 = .ok (.if_icmp .ne 45, 3) := by decide +kernel
theorem dX7_bestFace_79 : decode cX7_bestFace 79 = .ok (.iload_n 2, 1) := by decide +kernel
theorem dX7_bestFace_80 : decode cX7_bestFace 80 = .ok (.ifCond .eq 22, 3) := by decide +kernel
theorem dX7_bestFace_83 : decode cX7_bestFace 83 = .ok (.aload_n 0, 1) := by decide +kernel
theorem dX7_bestFace_84 : decode cX7_bestFace 84 = .ok (.getfield 96, 3) := by decide +kernel
theorem dX7_bestFace_87 : decode cX7_bestFace 87 = .ok (.iload 4, 2) := by decide +kernel
theorem dX7_bestFace_89 : decode cX7_bestFace 89 = .ok (.iaload, 1) := by decide +kernel
theorem dX7_bestFace_90 : decode cX7_bestFace 90 = .ok (.aload_n 0, 1) := by decide +kernel
theorem dX7_bestFace_91 : decode cX7_bestFace 91 = .ok (.getfield 96, 3) := by decide +kernel
theorem dX7_bestFace_94 : decode cX7_bestFace 94 = .ok (.iload_n 3, 1) := by decide +kernel
theorem dX7_bestFace_95 : decode cX7_bestFace 95 = .ok (.iaload, 1) := by decide +kernel
theorem dX7_bestFace_96 : decode cX7_bestFace 96 = .ok (.if_icmp .ge 25, 3) := by decide +kernel
theorem dX7_bestFace_99 : decode cX7_bestFace 99 = .ok (.goto 19, 3) := by decide +kernel
theorem dX7_bestFace_102 : decode cX7_bestFace 102 = .ok (.aload_n 0, 1) := by decide +kernel
theorem dX7_bestFace_103 : decode cX7_bestFace 103 = .ok (.getfield 96, 3) := by decide +kernel
theorem dX7_bestFace_106 : decode cX7_bestFace 106 = .ok (.iload 4, 2) := by decide +kernel
theorem dX7_bestFace_108 : decode cX7_bestFace 108 = .ok (.iaload, 1) := by decide +kernel
theorem dX7_bestFace_109 : decode cX7_bestFace 109 = .ok (.aload_n 0, 1) := by decide +kernel
theorem dX7_bestFace_110 : decode cX7_bestFace 110 = .ok (.getfield 96, 3) := by decide +kernel
theorem dX7_bestFace_113 : decode cX7_bestFace 113 = .ok (.iload_n 3, 1) := by decide +kernel
theorem dX7_bestFace_114 : decode cX7_bestFace 114 = .ok (.iaload, 1) := by decide +kernel
theorem dX7_bestFace_115 : decode cX7_bestFace 115 = .ok (.if_icmp .le 6, 3) := by decide +kernel
theorem dX7_bestFace_118 : decode cX7_bestFace 118 = .ok (.iload 4, 2) := by decide +kernel
theorem dX7_bestFace_120 : decode cX7_bestFace 120 = .ok (.istore_n 3, 1) := by decide +kernel
theorem dX7_bestFace_121 : decode cX7_bestFace 121 = .ok (.iinc 4 1, 3) := by decide +kernel
theorem dX7_bestFace_124 : decode cX7_bestFace 124 = .ok (.goto (-119), 3) := by decide +kernel
theorem dX7_bestFace_127 : decode cX7_bestFace 127 = .ok (.iload_n 3, 1) := by decide +kernel
theorem dX7_bestFace_128 : decode cX7_bestFace 128 = .ok (.ireturn, 1) := by decide +kernel
theorem dX7_blindly_0 : decode cX7_blindly 0 = .ok (.iconst 0, 1) := by decide +kernel
theorem dX7_blindly_1 : decode cX7_blindly 1 = .ok (.istore_n 2, 1) := by decide +kernel
theorem dX7_blindly_2 : decode cX7_blindly 2 = .ok (.iconst 0, 1) := by decide +kernel
theorem dX7_blindly_3 : decode cX7_blindly 3 = .ok (.istore_n 3, 1) := by decide +kernel
theorem dX7_blindly_4 : decode cX7_blindly 4 = .ok (.iload_n 3, 1) := by decide +kernel
theorem dX7_blindly_5 : decode cX7_blindly 5 = .ok (.aload_n 0, 1) := by decide +kernel
theorem dX7_blindly_6 : decode cX7_blindly 6 = .ok (.getfield 129, 3) := by decide +kernel
theorem dX7_blindly_9 : decode cX7_blindly 9 = .ok (.if_icmp .ge 20, 3) := by decide +kernel
theorem dX7_blindly_12 : decode cX7_blindly 12 = .ok (.iload_n 2, 1) := by decide +kernel
theorem dX7_blindly_13 : decode cX7_blindly 13 = .ok (.iconst 1, 1) := by decide +kernel
theorem dX7_blindly_14 : decode cX7_blindly 14 = .ok (.aload_n 0, 1) := by decide +kernel
theorem dX7_blindly_15 : decode cX7_blindly 15 = .ok (.getfield 38, 3) := by decide +kernel
theorem dX7_blindly_18 : decode cX7_blindly 18 = .ok (.iload_n 3, 1) := by decide +kernel
theorem dX7_blindly_19 : decode cX7_blindly 19 = .ok (.iaload, 1) := by decide +kernel
theorem dX7_blindly_20 : decode cX7_blindly 20 = .ok (.isub, 1) := by decide +kernel
theorem dX7_blindly_21 : decode cX7_blindly 21 = .ok (.iadd, 1) := by decide +kernel
theorem dX7_blindly_22 : decode cX7_blindly 22 = .ok (.istore_n 2, 1) := by decide +kernel
