/-! decode rows -/
theorem dX7_blindly_23 : decode cX7_blindly 23 = .ok (.iinc 3 1, 3) := by decide +kernel
theorem dX7_blindly_26 : decode cX7_blindly 26 = .ok (.goto (-22), 3) := by decide +kernel
theorem dX7_blindly_29 : decode cX7_blindly 29 = .ok (.iload_n 2, 1) := by decide +kernel
theorem dX7_blindly_30 : decode cX7_blindly 30 = .ok (.ifCond .ne 5, 3) := by decide +kernel
theorem dX7_blindly_33 : decode cX7_blindly 33 = .ok (.iconst (-1), 1) := by decide +kernel
theorem dX7_blindly_34 : decode cX7_blindly 34 = .ok (.ireturn, 1) := by decide +kernel
theorem dX7_blindly_35 : decode cX7_blindly 35 = .ok (.iload_n 1, 1) := by decide +kernel
theorem dX7_blindly_36 : decode cX7_blindly 36 = .ok (.aload_n 0, 1) := by decide +kernel
theorem dX7_blindly_37 : decode cX7_blindly 37 = .ok (.getfield 207, 3) := by decide +kernel
theorem dX7_blindly_40 : decode cX7_blindly 40 = .ok (.iadd, 1) := by decide +kernel
theorem dX7_blindly_41 : decode cX7_blindly 41 = .ok (.iload_n 2, 1) := by decide +kernel
theorem dX7_blindly_42 : decode cX7_blindly 42 = .ok (.irem, 1) := by decide +kernel
theorem dX7_blindly_43 : decode cX7_blindly 43 = .ok (.istore_n 3, 1) := by decide +kernel
theorem dX7_blindly_44 : decode cX7_blindly 44 = .ok (.iconst 0, 1) := by decide +kernel
theorem dX7_blindly_45 : decode cX7_blindly 45 = .ok (.istore 4, 2) := by decide +kernel
theorem dX7_blindly_47 : decode cX7_blindly 47 = .ok (.iload 4, 2) := by decide +kernel
theorem dX7_blindly_49 : decode cX7_blindly 49 = .ok (.aload_n 0, 1) := by decide +kernel
theorem dX7_blindly_50 : decode cX7_blindly 50 = .ok (.getfield 129, 3) := by decide +kernel
theorem dX7_blindly_53 : decode cX7_blindly 53 = .ok (.if_icmp .ge 33, 3) := by decide +kernel
theorem dX7_blindly_56 : decode cX7_blindly 56 = .ok (.aload_n 0, 1) := by decide +kernel
theorem dX7_blindly_57 : decode cX7_blindly 57 = .ok (.getfield 38, 3) := by decide +kernel
theorem dX7_blindly_60 : decode cX7_blindly 60 = .ok (.iload 4, 2) := by decide +kernel
theorem dX7_blindly_62 : decode cX7_blindly 62 = .ok (.iaload, 1) := by decide +kernel
theorem dX7_blindly_63 : decode cX7_blindly 63 = .ok (.iconst 1, 1) := by decide +kernel
theorem dX7_blindly_64 : decode cX7_blindly 64 = .ok (.if_icmp .ne 6, 3) := by decide +kernel
theorem dX7_blindly_67 : decode cX7_blindly 67 = .ok (.goto 13, 3) := by decide +kernel
theorem dX7_blindly_70 : decode cX7_blindly 70 = .ok (.iload_n 3, 1) := by decide +kernel
theorem dX7_blindly_71 : decode cX7_blindly 71 = .ok (.ifCond .ne 6, 3) := by decide +kernel
theorem dX7_blindly_74 : decode cX7_blindly 74 = .ok (.iload 4, 2) := by decide +kernel
theorem dX7_blindly_76 : decode cX7_blindly 76 = .ok (.ireturn, 1) := by decide +kernel
theorem dX7_blindly_77 : decode cX7_blindly 77 = .ok (.iinc 3 (-1), 3) := by decide +kernel
theorem dX7_blindly_80 : decode cX7_blindly 80 = .ok (.iinc 4 1, 3) := by decide +kernel
theorem dX7_blindly_83 : decode cX7_blindly 83 = .ok (.goto (-36), 3) := by decide +kernel
theorem dX7_blindly_86 : decode cX7_blindly 86 = .ok (.iconst (-1), 1) := by decide +kernel
theorem dX7_blindly_87 : decode cX7_blindly 87 = .ok (.ireturn, 1) := by decide +kernel
theorem dX7_picksBy_0 : decode cX7_picksBy 0 = .ok (.iload_n 2, 1) := by decide +kernel
theorem dX7_picksBy_1 : decode cX7_picksBy 1 = .ok (.tableswitch 91 1 4 #[31, 38, 45, 51], 31) := by decide +kernel
theorem dX7_picksBy_32 : decode cX7_picksBy 32 = .ok (.aload_n 0, 1) := by decide +kernel
theorem dX7_picksBy_33 : decode cX7_picksBy 33 = .ok (.iconst 0, 1) := by decide +kernel
theorem dX7_picksBy_34 : decode cX7_picksBy 34 = .ok (.iconst 1, 1) := by decide +kernel
theorem dX7_picksBy_35 : decode cX7_picksBy 35 = .ok (.invokevirtual 220, 3) := by decide +kernel
theorem dX7_picksBy_38 : decode cX7_picksBy 38 = .ok (.ireturn, 1) := by decide +kernel
theorem dX7_picksBy_39 : decode cX7_picksBy 39 = .ok (.aload_n 0, 1) := by decide +kernel
theorem dX7_picksBy_40 : decode cX7_picksBy 40 = .ok (.iconst 1, 1) := by decide +kernel
theorem dX7_picksBy_41 : decode cX7_picksBy 41 = .ok (.iconst 0, 1) := by decide +kernel
theorem dX7_picksBy_42 : decode cX7_picksBy 42 = .ok (.invokevirtual 220, 3) := by decide +kernel
theorem dX7_picksBy_45 : decode cX7_picksBy 45 = .ok (.ireturn, 1) := by decide +kernel
theorem dX7_picksBy_46 : decode cX7_picksBy 46 = .ok (.aload_n 0, 1) := by decide +kernel
theorem dX7_picksBy_47 : decode cX7_picksBy 47 = .ok (.iload_n 1, 1) := by decide +kernel
theorem dX7_picksBy_48 : decode cX7_picksBy 48 = .ok (.invokevirtual 224, 3) := by decide +kernel
theorem dX7_picksBy_51 : decode cX7_picksBy 51 = .ok (.ireturn, 1) := by decide +kernel
theorem dX7_picksBy_52 : decode cX7_picksBy 52 = .ok (.aload_n 0, 1) := by decide +kernel
theorem dX7_picksBy_53 : decode cX7_picksBy 53 = .ok (.getfield 47, 3) := by decide +kernel
theorem dX7_picksBy_56 : decode cX7_picksBy 56 = .ok (.iload_n 1, 1) := by decide +kernel
theorem dX7_picksBy_57 : decode cX7_picksBy 57 = .ok (.iaload, 1) := by decide +kernel
theorem dX7_picksBy_58 : decode cX7_picksBy 58 = .ok (.iconst (-1), 1) := by decide +kernel
theorem dX7_picksBy_59 : decode cX7_picksBy 59 = .ok (.if_icmp .eq 26, 3) := by decide +kernel
theorem dX7_picksBy_62 : decode cX7_picksBy 62 = .ok (.aload_n 0, 1) := by decide +kernel
theorem dX7_picksBy_63 : decode cX7_picksBy 63 = .ok (.getfield 38, 3) := by decide +kernel
theorem dX7_picksBy_66 : decode cX7_picksBy 66 = .ok (.aload_n 0, 1) := by decide +kernel
theorem dX7_picksBy_67 : decode cX7_picksBy 67 = .ok (.getfield 47, 3) := by decide +kernel
theorem dX7_picksBy_70 : decode cX7_picksBy 70 = .ok (.iload_n 1, 1) := by decide +kernel
theorem dX7_picksBy_71 : decode cX7_picksBy 71 = .ok (.iaload, 1) := by decide +kernel
theorem dX7_picksBy_72 : decode cX7_picksBy 72 = .ok (.iaload, 1) := by decide +kernel
theorem dX7_picksBy_73 : decode cX7_picksBy 73 = .ok (.ifCond .ne 12, 3) := by decide +kernel
theorem dX7_picksBy_76 : decode cX7_picksBy 76 = .ok (.aload_n 0, 1) := by decide +kernel
theorem dX7_picksBy_77 : decode cX7_picksBy 77 = .ok (.getfield 47, 3) := by decide +kernel
theorem dX7_picksBy_80 : decode cX7_picksBy 80 = .ok (.iload_n 1, 1) := by decide +kernel
theorem dX7_picksBy_81 : decode cX7_picksBy 81 = .ok (.iaload, 1) := by decide +kernel
theorem dX7_picksBy_82 : decode cX7_picksBy 82 = .ok (.goto 9, 3) := by decide +kernel
theorem dX7_picksBy_85 : decode cX7_picksBy 85 = .ok (.aload_n 0, 1) := by decide +kernel
theorem dX7_picksBy_86 : decode cX7_picksBy 86 = .ok (.iconst 0, 1) := by decide +kernel
theorem dX7_picksBy_87 : decode cX7_picksBy 87 = .ok (.iconst 0, 1) := by decide +kernel
theorem dX7_picksBy_88 : decode cX7_picksBy 88 = .ok (.invokevirtual 220, 3) := by decide +kernel
theorem dX7_picksBy_91 : decode cX7_picksBy 91 = .ok (.ireturn, 1) := by decide +kernel
theorem dX7_picksBy_92 : decode cX7_picksBy 92 = .ok (.aload_n 0, 1) := by decide +kernel
theorem dX7_picksBy_93 : decode cX7_picksBy 93 = .ok (.iconst 0, 1) := by decide +kernel
theorem dX7_picksBy_94 : decode cX7_picksBy 94 = .ok (.iconst 0, 1) := by decide +kernel
theorem dX7_picksBy_95 : decode cX7_picksBy 95 = .ok (.invokevirtual 220, 3) := by decide +kernel
theorem dX7_picksBy_98 : decode cX7_picksBy 98 = .ok (.ireturn, 1) := by decide +kernel
theorem dX7_goes_0 : decode cX7_goes 0 = .ok (.aload_n 0, 1) := by decide +kernel
theorem dX7_goes_1 : decode cX7_goes 1 = .ok (.iconst 0, 1) := by decide +kernel
theorem dX7_goes_2 : decode cX7_goes 2 = .ok (.putfield 227, 3) := by decide +kernel
theorem dX7_goes_5 : decode cX7_goes 5 = .ok (.aload_n 0, 1) := by decide +kernel
theorem dX7_goes_6 : decode cX7_goes 6 = .ok (.iconst 0, 1) := by decide +kernel
theorem dX7_goes_7 : decode cX7_goes 7 = .ok (.putfield 230, 3) := by decide +kernel
theorem dX7_goes_10 : decode cX7_goes 10 = .ok (.iconst 0, 1) := by decide +kernel
theorem dX7_goes_11 : decode cX7_goes 11 = .ok (.istore_n 1, 1) := by decide +kernel
theorem dX7_goes_12 : decode cX7_goes 12 = .ok (.iload_n 1, 1) := by decide +kernel
theorem dX7_goes_13 : decode cX7_goes 13 = .ok (.aload_n 0, 1) := by decide +kernel
theorem dX7_goes_14 : decode cX7_goes 14 = .ok (.getfield 129, 3) := by decide +kernel
theorem dX7_goes_17 : decode cX7_goes 17 = .ok (.if_icmp .ge 41, 3) := by decide +kernel
theorem dX7_goes_20 : decode cX7_goes 20 = .ok (.aload_n 0, 1) := by decide +kernel
theorem dX7_goes_21 : decode cX7_goes 21 = .ok (.getfield 96, 3) := by decide +kernel
theorem dX7_goes_24 : decode cX7_goes 24 = .ok (.iload_n 1, 1) := by decide +kernel
theorem dX7_goes_25 : decode cX7_goes 25 = .ok (.aload_n 0, 1) := by decide +kernel
theorem dX7_goes_26 : decode cX7_goes 26 = .ok (.iload_n 1, 1) := by decide +kernel
theorem dX7_goes_27 : decode cX7_goes 27 = .ok (.invokevirtual 146, 3) := by decide +kernel
theorem dX7_goes_30 : decode cX7_goes 30 = .ok (.iastore, 1) := by decide +kernel
theorem dX7_goes_31 : decode cX7_goes 31 = .ok (.aload_n 0, 1) := by decide +kernel
theorem dX7_goes_32 : decode cX7_goes 32 = .ok (.getfield 102, 3) := by decide +kernel
theorem dX7_goes_35 : decode cX7_goes 35 = .ok (.iload_n 1, 1) := by decide +kernel
theorem dX7_goes_36 : decode cX7_goes 36 = .ok (.iconst 0, 1) := by decide +kernel
theorem dX7_goes_37 : decode cX7_goes 37 = .ok (.iastore, 1) := by decide +kernel
theorem dX7_goes_38 : decode cX7_goes 38 = .ok (.aload_n 0, 1) := by decide +kernel
theorem dX7_goes_39 : decode cX7_goes 39 = .ok (.getfield 105, 3) := by decide +kernel
theorem dX7_goes_42 : decode cX7_goes 42 = .ok (.iload_n 1, 1) := by decide +kernel
theorem dX7_goes_43 : decode cX7_goes 43 = .ok (.iconst 0, 1) := by decide +kernel
theorem dX7_goes_44 : decode cX7_goes 44 = .ok (.iastore, 1) := by decide +kernel
theorem dX7_goes_45 : decode cX7_goes 45 = .ok (.aload_n 0, 1) := by decide +kernel
theorem dX7_goes_46 : decode cX7_goes 46 = .ok (.getfield 108, 3) := by decide +kernel
theorem dX7_goes_49 : decode cX7_goes 49 = .ok (.iload_n 1, 1) := by decide +kernel
theorem dX7_goes_50 : decode cX7_goes 50 = .ok (.iconst 0, 1) := by decide +kernel
theorem dX7_goes_51 : decode cX7_goes 51 = .ok (.iastore, 1) := by decide +kernel
theorem dX7_goes_52 : decode cX7_goes 52 = .ok (.iinc 1 1, 3) := by decide +kernel
theorem dX7_goes_55 : decode cX7_goes 55 = .ok (.goto (-43), 3) := by decide +kernel
theorem dX7_goes_58 : decode cX7_goes 58 = .ok (.iconst 0, 1) := by decide +kernel
theorem dX7_goes_59 : decode cX7_goes 59 = .ok (.istore_n 1, 1) := by decide +kernel
theorem dX7_goes_60 : decode cX7_goes 60 = .ok (.iload_n 1, 1) := by decide +kernel
theorem dX7_goes_61 : decode cX7_goes 61 = .ok (.aload_n 0, 1) := by decide +kernel
theorem dX7_goes_62 : decode cX7_goes 62 = .ok (.getfield 132, 3) := by decide +kernel
theorem dX7_goes_65 : decode cX7_goes 65 = .ok (.if_icmp .ge 197, 3) := by decide +kernel
theorem dX7_goes_68 : decode cX7_goes 68 = .ok (.aload_n 0, 1) := by decide +kernel
theorem dX7_goes_69 : decode cX7_goes 69 = .ok (.getfield 99, 3) := by decide +kernel
theorem dX7_goes_72 : decode cX7_goes 72 = .ok (.iload_n 1, 1) := by decide +kernel
theorem dX7_goes_73 : decode cX7_goes 73 = .ok (.iconst (-1), 1) := by decide +kernel
theorem dX7_goes_74 : decode cX7_goes 74 = .ok (.iastore, 1) := by decide +kernel
theorem dX7_goes_75 : decode cX7_goes 75 = .ok (.aload_n 0, 1) := by decide +kernel
theorem dX7_goes_76 : decode cX7_goes 76 = .ok (.getfield 111, 3) := by decide +kernel
theorem dX7_goes_79 : decode cX7_goes 79 = .ok (.iload_n 1, 1) := by decide +kernel
theorem dX7_goes_80 : decode cX7_goes 80 = .ok (.iconst 0, 1) := by decide +kernel
theorem dX7_goes_81 : decode cX7_goes 81 = .ok (.iastore, 1) := by decide +kernel
theorem dX7_goes_82 : decode cX7_goes 82 = .ok (.aload_n 0, 1) := by decide +kernel
theorem dX7_goes_83 : decode cX7_goes 83 = .ok (.getfield 53, 3) := by decide +kernel
theorem dX7_goes_86 : decode cX7_goes 86 = .ok (.iload_n 1, 1) := by decide +kernel
theorem dX7_goes_87 : decode cX7_goes 87 = .ok (.iaload, 1) := by decide +kernel
theorem dX7_goes_88 : decode cX7_goes 88 = .ok (.iconst 1, 1) := by decide +kernel
theorem dX7_goes_89 : decode cX7_goes 89 = .ok (.if_icmp .ne 6, 3) := by decide +kernel
theorem dX7_goes_92 : decode cX7_goes 92 = .ok (.goto 164, 3) := by decide +kernel
theorem dX7_goes_95 : decode cX7_goes 95 = .ok (.aload_n 0, 1) := by decide +kernel
theorem dX7_goes_96 : decode cX7_goes 96 = .ok (.iload_n 1, 1) := by decide +kernel
theorem dX7_goes_97 : decode cX7_goes 97 = .ok (.aload_n 0, 1) := by decide +kernel
theorem dX7_goes_98 : decode cX7_goes 98 = .ok (.getfield 44, 3) := by decide +kernel
theorem dX7_goes_101 : decode cX7_goes 101 = .ok (.iload_n 1, 1) := by decide +kernel
theorem dX7_goes_102 : decode cX7_goes 102 = .ok (.iaload, 1) := by decide +kernel
theorem dX7_goes_103 : decode cX7_goes 103 = .ok (.invokevirtual 233, 3) := by decide +kernel
theorem dX7_goes_106 : decode cX7_goes 106 = .ok (.istore_n 2, 1) := by decide +kernel
theorem dX7_goes_107 : decode cX7_goes 107 = .ok (.aload_n 0, 1) := by decide +kernel
theorem dX7_goes_108 : decode cX7_goes 108 = .ok (.getfield 99, 3) := by decide +kernel
theorem dX7_goes_111 : decode cX7_goes 111 = .ok (.iload_n 1, 1) := by decide +kernel
theorem dX7_goes_112 : decode cX7_goes 112 = .ok (.iload_n 2, 1) := by decide +kernel
theorem dX7_goes_113 : decode cX7_goes 113 = .ok (.iastore, 1) := by decide +kernel
theorem dX7_goes_114 : decode cX7_goes 114 = .ok (.iload_n 2, 1) := by decide +kernel
theorem dX7_goes_115 : decode cX7_goes 115 = .ok (.iconst (-1), 1) := by decide +kernel
theorem dX7_goes_116 : decode cX7_goes 116 = .ok (.if_icmp .eq 123, 3) := by decide +kernel
theorem dX7_goes_119 : decode cX7_goes 119 = .ok (.aload_n 0, 1) := by decide +kernel
theorem dX7_goes_120 : decode cX7_goes 120 = .ok (.getfield 102, 3) := by decide +kernel
theorem dX7_goes_123 : decode cX7_goes 123 = .ok (.iload_n 2, 1) := by decide +kernel
theorem dX7_goes_124 : decode cX7_goes 124 = .ok (.dup2, 1) := by decide +kernel
theorem dX7_goes_125 : decode cX7_goes 125 = .ok (.iaload, 1) := by decide +kernel
theorem dX7_goes_126 : decode cX7_goes 126 = .ok (.iconst 1, 1) := by decide +kernel
theorem dX7_goes_127 : decode cX7_goes 127 = .ok (.iadd, 1) := by decide +kernel
theorem dX7_goes_128 : decode cX7_goes 128 = .ok (.iastore, 1) := by decide +kernel
theorem dX7_goes_129 : decode cX7_goes 129 = .ok (.aload_n 0, 1) := by decide +kernel
theorem dX7_goes_130 : decode cX7_goes 130 = .ok (.getfield 20, 3) := by decide +kernel
theorem dX7_goes_133 : decode cX7_goes 133 = .ok (.iload_n 2, 1) := by decide +kernel
theorem dX7_goes_134 : decode cX7_goes 134 = .ok (.iaload, 1) := by decide +kernel
theorem dX7_goes_135 : decode cX7_goes 135 = .ok (.iconst 5, 1) := by decide +kernel
theorem dX7_goes_136 : decode cX7_goes 136 = .ok (.if_icmp .ne 22, 3) := by decide +kernel
theorem dX7_goes_139 : decode cX7_goes 139 = .ok (.aload_n 0, 1) := by decide +kernel
theorem dX7_goes_140 : decode cX7_goes 140 = .ok (.getfield 41, 3) := by decide +kernel
theorem dX7_goes_143 : decode cX7_goes 143 = .ok (.iload_n 1, 1) := by decide +kernel
theorem dX7_goes_144 : decode cX7_goes 144 = .ok (.iaload, 1) := by decide +kernel
theorem dX7_goes_145 : decode cX7_goes 145 = .ok (.aload_n 0, 1) := by decide +kernel
theorem dX7_goes_146 : decode cX7_goes 146 = .ok (.getfield 23, 3) := by decide +kernel
theorem dX7_goes_149 : decode cX7_goes 149 = .ok (.iload_n 2, 1) := by decide +kernel
theorem dX7_goes_150 : decode cX7_goes 150 = .ok (.iaload, 1) := by decide +kernel
theorem dX7_goes_151 : decode cX7_goes 151 = .ok (.if_icmp .gt 7, 3) := by decide +kernel
theorem dX7_goes_154 : decode cX7_goes 154 = .ok (.iconst 1, 1) := by decide +kernel
theorem dX7_goes_155 : decode cX7_goes 155 = .ok (.goto 4, 3) := by decide +kernel
theorem dX7_goes_158 : decode cX7_goes 158 = .ok (.iconst 0, 1) := by decide +kernel
theorem dX7_goes_159 : decode cX7_goes 159 = .ok (.istore_n 3, 1) := by decide +kernel
theorem dX7_goes_160 : decode cX7_goes 160 = .ok (.iload_n 3, 1) := by decide +kernel
theorem dX7_goes_161 : decode cX7_goes 161 = .ok (.ifCond .ne 25, 3) := by decide +kernel
theorem dX7_goes_164 : decode cX7_goes 164 = .ok (.aload_n 0, 1) := by decide +kernel
theorem dX7_goes_165 : decode cX7_goes 165 = .ok (.getfield 26, 3) := by decide +kernel
theorem dX7_goes_168 : decode cX7_goes 168 = .ok (.iload_n 2, 1) := by decide +kernel
theorem dX7_goes_169 : decode cX7_goes 169 = .ok (.iaload, 1) := by decide +kernel
theorem dX7_goes_170 : decode cX7_goes 170 = .ok (.aload_n 0, 1) := by decide +kernel
theorem dX7_goes_171 : decode cX7_goes 171 = .ok (.getfield 105, 3) := by decide +kernel
theorem dX7_goes_174 : decode cX7_goes 174 = .ok (.iload_n 2, 1) := by decide +kernel
theorem dX7_goes_175 : decode cX7_goes 175 = .ok (.iaload, 1) := by decide +kernel
theorem dX7_goes_176 : decode cX7_goes 176 = .ok (.aload_n 0, 1) := by decide +kernel
theorem dX7_goes_177 : decode cX7_goes 177 = .ok (.getfield 41, 3) := by decide +kernel
theorem dX7_goes_180 : decode cX7_goes 180 = .ok (.iload_n 1, 1) := by decide +kernel
theorem dX7_goes_181 : decode cX7_goes 181 = .ok (.iaload, 1) := by decide +kernel
theorem dX7_goes_182 : decode cX7_goes 182 = .ok (.iadd, 1) := by decide +kernel
theorem dX7_goes_183 : decode cX7_goes 183 = .ok (.if_icmp .lt 56, 3) := by decide +kernel
theorem dX7_goes_186 : decode cX7_goes 186 = .ok (.aload_n 0, 1) := by decide +kernel
theorem dX7_goes_187 : decode cX7_goes 187 = .ok (.getfield 111, 3) := by decide +kernel
theorem dX7_goes_190 : decode cX7_goes 190 = .ok (.iload_n 1, 1) := by decide +kernel
theorem dX7_goes_191 : decode cX7_goes 191 = .ok (.iconst 1, 1) := by decide +kernel
theorem dX7_goes_192 : decode cX7_goes 192 = .ok (.iastore, 1) := by decide +kernel
theorem dX7_goes_193 : decode cX7_goes 193 = .ok (.aload_n 0, 1) := by decide +kernel
theorem dX7_goes_194 : decode cX7_goes 194 = .ok (.dup, 1) := by decide +kernel
theorem dX7_goes_195 : decode cX7_goes 195 = .ok (.getfield 230, 3) := by decide +kernel
theorem dX7_goes_198 : decode cX7_goes 198 = .ok (.iconst 1, 1) := by decide +kernel
theorem dX7_goes_199 : decode cX7_goes 199 = .ok (.iload_n 1, 1) := by decide +kernel
theorem dX7_goes_200 : decode cX7_goes 200 = .ok (.ishl, 1) := by decide +kernel
theorem dX7_goes_201 : decode cX7_goes 201 = .ok (.iadd, 1) := by decide +kernel
theorem dX7_goes_202 : decode cX7_goes 202 = .ok (.putfield 230, 3) := by decide +kernel
theorem dX7_goes_205 : decode cX7_goes 205 = .ok (.aload_n 0, 1) := by decide +kernel
theorem dX7_goes_206 : decode cX7_goes 206 = .ok (.getfield 108, 3) := by decide +kernel
theorem dX7_goes_209 : decode cX7_goes 209 = .ok (.iload_n 2, 1) := by decide +kernel
theorem dX7_goes_210 : decode cX7_goes 210 = .ok (.dup2, 1) := by decide +kernel
theorem dX7_goes_211 : decode cX7_goes 211 = .ok (.iaload, 1) := by decide +kernel
theorem dX7_goes_212 : decode cX7_goes 212 = .ok (.aload_n 0, 1) := by decide +kernel
theorem dX7_goes_213 : decode cX7_goes 213 = .ok (.getfield 41, 3) := by decide +kernel
theorem dX7_goes_216 : decode cX7_goes 216 = .ok (.iload_n 1, 1) := by decide +kernel
theorem dX7_goes_217 : decode cX7_goes 217 = .ok (.iaload, 1) := by decide +kernel
theorem dX7_goes_218 : decode cX7_goes 218 = .ok (.iadd, 1) := by decide +kernel
theorem dX7_goes_219 : decode cX7_goes 219 = .ok (.iastore, 1) := by decide +kernel
theorem dX7_goes_220 : decode cX7_goes 220 = .ok (.iload_n 3, 1) := by decide +kernel
theorem dX7_goes_221 : decode cX7_goes 221 = .ok (.ifCond .ne 18, 3) := by decide +kernel
theorem dX7_goes_224 : decode cX7_goes 224 = .ok (.aload_n 0, 1) := by decide +kernel
theorem dX7_goes_225 : decode cX7_goes 225 = .ok (.getfield 105, 3) := by decide +kernel
theorem dX7_goes_228 : decode cX7_goes 228 = .ok (.iload_n 2, 1) := by decide +kernel
theorem dX7_goes_229 : decode cX7_goes 229 = .ok (.dup2, 1) := by decide +kernel
theorem dX7_goes_230 : decode cX7_goes 230 = .ok (.iaload, 1) := by decide +kernel
theorem dX7_goes_231 : decode cX7_goes 231 = .ok (.aload_n 0, 1) := by decide +kernel
theorem dX7_goes_232 : decode cX7_goes 232 = .ok (.getfield 41, 3) := by decide +kernel
theorem dX7_goes_235 : decode cX7_goes 235 = .ok (.iload_n 1, 1) := by decide +kernel
theorem dX7_goes_236 : decode cX7_goes 236 = .ok (.iaload, 1) := by decide +kernel
theorem dX7_goes_237 : decode cX7_goes 237 = .ok (.iadd, 1) := by decide +kernel
theorem dX7_goes_238 : decode cX7_goes 238 = .ok (.iastore, 1) := by decide +kernel
theorem dX7_goes_239 : decode cX7_goes 239 = .ok (.aload_n 0, 1) := by decide +kernel
theorem dX7_goes_240 : decode cX7_goes 240 = .ok (.dup, 1) := by decide +kernel
theorem dX7_goes_241 : decode cX7_goes 241 = .ok (.getfield 227, 3) := by decide +kernel
theorem dX7_goes_244 : decode cX7_goes 244 = .ok (.iconst 1, 1) := by decide +kernel
theorem dX7_goes_245 : decode cX7_goes 245 = .ok (.aload_n 0, 1) := by decide +kernel
theorem dX7_goes_246 : decode cX7_goes 246 = .ok (.getfield 111, 3) := by decide +kernel
theorem dX7_goes_249 : decode cX7_goes 249 = .ok (.iload_n 1, 1) := by decide +kernel
theorem dX7_goes_250 : decode cX7_goes 250 = .ok (.iaload, 1) := by decide +kernel
theorem dX7_goes_251 : decode cX7_goes 251 = .ok (.isub, 1) := by decide +kernel
theorem dX7_goes_252 : decode cX7_goes 252 = .ok (.iadd, 1) := by decide +kernel
theorem dX7_goes_253 : decode cX7_goes 253 = .ok (.putfield 227, 3) := by decide +kernel
theorem dX7_goes_256 : decode cX7_goes 256 = .ok (.iinc 1 1, 3) := by decide +kernel
theorem dX7_goes_259 : decode cX7_goes 259 = .ok (.goto (-199), 3) := by decide +kernel
theorem dX7_goes_262 : decode cX7_goes 262 = .ok (.return_, 1) := by decide +kernel
theorem dX7_passes_0 : decode cX7_passes 0 = .ok (.aload_n 0, 1) := by decide +kernel
theorem dX7_passes_1 : decode cX7_passes 1 = .ok (.invokevirtual 236, 3) := by decide +kernel
theorem dX7_passes_4 : decode cX7_passes 4 = .ok (.iconst 0, 1) := by decide +kernel
theorem dX7_passes_5 : decode cX7_passes 5 = .ok (.istore_n 1, 1) := by decide +kernel
theorem dX7_passes_6 : decode cX7_passes 6 = .ok (.iload_n 1, 1) := by decide +kernel
theorem dX7_passes_7 : decode cX7_passes 7 = .ok (.aload_n 0, 1) := by decide +kernel
theorem dX7_passes_8 : decode cX7_passes 8 = .ok (.getfield 129, 3) := by decide +kernel
theorem dX7_passes_11 : decode cX7_passes 11 = .ok (.if_icmp .ge 123, 3) := by decide +kernel
theorem dX7_passes_14 : decode cX7_passes 14 = .ok (.aload_n 0, 1) := by decide +kernel
theorem dX7_passes_15 : decode cX7_passes 15 = .ok (.getfield 102, 3) := by decide +kernel
theorem dX7_passes_18 : decode cX7_passes 18 = .ok (.iload_n 1, 1) := by decide +kernel
theorem dX7_passes_19 : decode cX7_passes 19 = .ok (.iaload, 1) := by decide +kernel
theorem dX7_passes_20 : decode cX7_passes 20 = .ok (.ifCond .ne 59, 3) := by decide +kernel
theorem dX7_passes_23 : decode cX7_passes 23 = .ok (.aload_n 0, 1) := by decide +kernel
theorem dX7_passes_24 : decode cX7_passes 24 = .ok (.getfield 32, 3) := by decide +kernel
theorem dX7_passes_27 : decode cX7_passes 27 = .ok (.iload_n 1, 1) := by decide +kernel
theorem dX7_passes_28 : decode cX7_passes 28 = .ok (.aload_n 0, 1) := by decide +kernel
theorem dX7_passes_29 : decode cX7_passes 29 = .ok (.getfield 32, 3) := by decide +kernel
theorem dX7_passes_32 : decode cX7_passes 32 = .ok (.iload_n 1, 1) := by decide +kernel
theorem dX7_passes_33 : decode cX7_passes 33 = .ok (.iaload, 1) := by decide +kernel
theorem dX7_passes_34 : decode cX7_passes 34 = .ok (.iconst 2, 1) := by decide +kernel
theorem dX7_passes_35 : decode cX7_passes 35 = .ok (.if_icmp .ge 7, 3) := by decide +kernel
theorem dX7_passes_38 : decode cX7_passes 38 = .ok (.iconst 0, 1) := by decide +kernel
theorem dX7_passes_39 : decode cX7_passes 39 = .ok (.goto 11, 3) := by decide +kernel
theorem dX7_passes_42 : decode cX7_passes 42 = .ok (.aload_n 0, 1) := by decide +kernel
theorem dX7_passes_43 : decode cX7_passes 43 = .ok (.getfield 32, 3) := by decide +kernel
theorem dX7_passes_46 : decode cX7_passes 46 = .ok (.iload_n 1, 1) := by decide +kernel
theorem dX7_passes_47 : decode cX7_passes 47 = .ok (.iaload, 1) := by decide +kernel
theorem dX7_passes_48 : decode cX7_passes 48 = .ok (.iconst 2, 1) := by decide +kernel
theorem dX7_passes_49 : decode cX7_passes 49 = .ok (.isub, 1) := by decide +kernel
theorem dX7_passes_50 : decode cX7_passes 50 = .ok (.iastore, 1) := by decide +kernel
theorem dX7_passes_51 : decode cX7_passes 51 = .ok (.aload_n 0, 1) := by decide +kernel
theorem dX7_passes_52 : decode cX7_passes 52 = .ok (.getfield 35, 3) := by decide +kernel
theorem dX7_passes_55 : decode cX7_passes 55 = .ok (.iload_n 1, 1) := by decide +kernel
theorem dX7_passes_56 : decode cX7_passes 56 = .ok (.dup2, 1) := by decide +kernel
theorem dX7_passes_57 : decode cX7_passes 57 = .ok (.iaload, 1) := by decide +kernel
theorem dX7_passes_58 : decode cX7_passes 58 = .ok (.aload_n 0, 1) := by decide +kernel
theorem dX7_passes_59 : decode cX7_passes 59 = .ok (.getfield 35, 3) := by decide +kernel
theorem dX7_passes_62 : decode cX7_passes 62 = .ok (.iload_n 1, 1) := by decide +kernel
theorem dX7_passes_63 : decode cX7_passes 63 = .ok (.iaload, 1) := by decide +kernel
theorem dX7_passes_64 : decode cX7_passes 64 = .ok (.bipush 9, 2) := by decide +kernel
theorem dX7_passes_66 : decode cX7_passes 66 = .ok (.if_icmp .ge 7, 3) := by decide +kernel
theorem dX7_passes_69 : decode cX7_passes 69 = .ok (.iconst 1, 1) := by decide +kernel
theorem dX7_passes_70 : decode cX7_passes 70 = .ok (.goto 4, 3) := by decide +kernel
theorem dX7_passes_73 : decode cX7_passes 73 = .ok (.iconst 0, 1) := by decide +kernel
theorem dX7_passes_74 : decode cX7_passes 74 = .ok (.iadd, 1) := by decide +kernel
theorem dX7_passes_75 : decode cX7_passes 75 = .ok (.iastore, 1) := by decide +kernel
theorem dX7_passes_76 : decode cX7_passes 76 = .ok (.goto 52, 3) := by decide +kernel
theorem dX7_passes_79 : decode cX7_passes 79 = .ok (.aload_n 0, 1) := by decide +kernel
theorem dX7_passes_80 : decode cX7_passes 80 = .ok (.getfield 32, 3) := by decide +kernel
theorem dX7_passes_83 : decode cX7_passes 83 = .ok (.iload_n 1, 1) := by decide +kernel
theorem dX7_passes_84 : decode cX7_passes 84 = .ok (.aload_n 0, 1) := by decide +kernel
theorem dX7_passes_85 : decode cX7_passes 85 = .ok (.getfield 32, 3) := by decide +kernel
theorem dX7_passes_88 : decode cX7_passes 88 = .ok (.iload_n 1, 1) := by decide +kernel
theorem dX7_passes_89 : decode cX7_passes 89 = .ok (.iaload, 1) := by decide +kernel
theorem dX7_passes_90 : decode cX7_passes 90 = .ok (.aload_n 0, 1) := by decide +kernel
theorem dX7_passes_91 : decode cX7_passes 91 = .ok (.getfield 108, 3) := by decide +kernel
theorem dX7_passes_94 : decode cX7_passes 94 = .ok (.iload_n 1, 1) := by decide +kernel
theorem dX7_passes_95 : decode cX7_passes 95 = .ok (.iaload, 1) := by decide +kernel
theorem dX7_passes_96 : decode cX7_passes 96 = .ok (.iadd, 1) := by decide +kernel
theorem dX7_passes_97 : decode cX7_passes 97 = .ok (.bipush 99, 2) := by decide +kernel
theorem dX7_passes_99 : decode cX7_passes 99 = .ok (.if_icmp .le 8, 3) := by decide +kernel
theorem dX7_passes_102 : decode cX7_passes 102 = .ok (.bipush 99, 2) := by decide +kernel
theorem dX7_passes_104 : decode cX7_passes 104 = .ok (.goto 16, 3) := by decide +kernel
theorem dX7_passes_107 : decode cX7_passes 107 = .ok (.aload_n 0, 1) := by decide +kernel
theorem dX7_passes_108 : decode cX7_passes 108 = .ok (.getfield 32, 3) := by decide +kernel
theorem dX7_passes_111 : decode cX7_passes 111 = .ok (.iload_n 1, 1) := by decide +kernel
theorem dX7_passes_112 : decode cX7_passes 112 = .ok (.iaload, 1) := by decide +kernel
theorem dX7_passes_113 : decode cX7_passes 113 = .ok (.aload_n 0, 1) := by decide +kernel
theorem dX7_passes_114 : decode cX7_passes 114 = .ok (.getfield 108, 3) := by decide +kernel
theorem dX7_passes_117 : decode cX7_passes 117 = .ok (.iload_n 1, 1) := by decide +kernel
theorem dX7_passes_118 : decode cX7_passes 118 = .ok (.iaload, 1) := by decide +kernel
theorem dX7_passes_119 : decode cX7_passes 119 = .ok (.iadd, 1) := by decide +kernel
theorem dX7_passes_120 : decode cX7_passes 120 = .ok (.iastore, 1) := by decide +kernel
theorem dX7_passes_121 : decode cX7_passes 121 = .ok (.aload_n 0, 1) := by decide +kernel
theorem dX7_passes_122 : decode cX7_passes 122 = .ok (.getfield 35, 3) := by decide +kernel
theorem dX7_passes_125 : decode cX7_passes 125 = .ok (.iload_n 1, 1) := by decide +kernel
theorem dX7_passes_126 : decode cX7_passes 126 = .ok (.iconst 0, 1) := by decide +kernel
theorem dX7_passes_127 : decode cX7_passes 127 = .ok (.iastore, 1) := by decide +kernel
theorem dX7_passes_128 : decode cX7_passes 128 = .ok (.iinc 1 1, 3) := by decide +kernel
theorem dX7_passes_131 : decode cX7_passes 131 = .ok (.goto (-125), 3) := by decide +kernel
theorem dX7_passes_134 : decode cX7_passes 134 = .ok (.iconst 0, 1) := by decide +kernel
theorem dX7_passes_135 : decode cX7_passes 135 = .ok (.istore_n 1, 1) := by decide +kernel
theorem dX7_passes_136 : decode cX7_passes 136 = .ok (.iload_n 1, 1) := by decide +kernel
theorem dX7_passes_137 : decode cX7_passes 137 = .ok (.aload_n 0, 1) := by decide +kernel
theorem dX7_passes_138 : decode cX7_passes 138 = .ok (.getfield 132, 3) := by decide +kernel
theorem dX7_passes_141 : decode cX7_passes 141 = .ok (.if_icmp .ge 88, 3) := by decide +kernel
theorem dX7_passes_144 : decode cX7_passes 144 = .ok (.aload_n 0, 1) := by decide +kernel
theorem dX7_passes_145 : decode cX7_passes 145 = .ok (.getfield 53, 3) := by decide +kernel
theorem dX7_passes_148 : decode cX7_passes 148 = .ok (.iload_n 1, 1) := by decide +kernel
theorem dX7_passes_149 : decode cX7_passes 149 = .ok (.iaload, 1) := by decide +kernel
theorem dX7_passes_150 : decode cX7_passes 150 = .ok (.iconst 1, 1) := by decide +kernel
theorem dX7_passes_151 : decode cX7_passes 151 = .ok (.if_icmp .ne 6, 3) := by decide +kernel
theorem dX7_passes_154 : decode cX7_passes 154 = .ok (.goto 69, 3) := by decide +kernel
theorem dX7_passes_157 : decode cX7_passes 157 = .ok (.aload_n 0, 1) := by decide +kernel
theorem dX7_passes_158 : decode cX7_passes 158 = .ok (.getfield 99, 3) := by decide +kernel
theorem dX7_passes_161 : decode cX7_passes 161 = .ok (.iload_n 1, 1) := by decide +kernel
theorem dX7_passes_162 : decode cX7_passes 162 = .ok (.iaload, 1) := by decide +kernel
theorem dX7_passes_163 : decode cX7_passes 163 = .ok (.iconst (-1), 1) := by decide +kernel
theorem dX7_passes_164 : decode cX7_passes 164 = .ok (.if_icmp .eq 15, 3) := by decide +kernel
theorem dX7_passes_167 : decode cX7_passes 167 = .ok (.aload_n 0, 1) := by decide +kernel
theorem dX7_passes_168 : decode cX7_passes 168 = .ok (.getfield 47, 3) := by decide +kernel
theorem dX7_passes_171 : decode cX7_passes 171 = .ok (.iload_n 1, 1) := by decide +kernel
theorem dX7_passes_172 : decode cX7_passes 172 = .ok (.aload_n 0, 1) := by decide +kernel
theorem dX7_passes_173 : decode cX7_passes 173 = .ok (.getfield 99, 3) := by decide +kernel
theorem dX7_passes_176 : decode cX7_passes 176 = .ok (.iload_n 1, 1) := by decide +kernel
theorem dX7_passes_177 : decode cX7_passes 177 = .ok (.iaload, 1) := by decide +kernel
theorem dX7_passes_178 : decode cX7_passes 178 = .ok (.iastore, 1) := by decide +kernel
theorem dX7_passes_179 : decode cX7_passes 179 = .ok (.aload_n 0, 1) := by decide +kernel
theorem dX7_passes_180 : decode cX7_passes 180 = .ok (.getfield 50, 3) := by decide +kernel
theorem dX7_passes_183 : decode cX7_passes 183 = .ok (.iload_n 1, 1) := by decide +kernel
theorem dX7_passes_184 : decode cX7_passes 184 = .ok (.aload_n 0, 1) := by decide +kernel
theorem dX7_passes_185 : decode cX7_passes 185 = .ok (.getfield 111, 3) := by decide +kernel
theorem dX7_passes_188 : decode cX7_passes 188 = .ok (.iload_n 1, 1) := by decide +kernel
theorem dX7_passes_189 : decode cX7_passes 189 = .ok (.iaload, 1) := by decide +kernel
theorem dX7_passes_190 : decode cX7_passes 190 = .ok (.iconst 1, 1) := by decide +kernel
theorem dX7_passes_191 : decode cX7_passes 191 = .ok (.if_icmp .ne 7, 3) := by decide +kernel
theorem dX7_passes_194 : decode cX7_passes 194 = .ok (.iconst 0, 1) := by decide +kernel
theorem dX7_passes_195 : decode cX7_passes 195 = .ok (.goto 27, 3) := by decide +kernel
theorem dX7_passes_198 : decode cX7_passes 198 = .ok (.aload_n 0, 1) := by decide +kernel
theorem dX7_passes_199 : decode cX7_passes 199 = .ok (.getfield 50, 3) := by decide +kernel
theorem dX7_passes_202 : decode cX7_passes 202 = .ok (.iload_n 1, 1) := by decide +kernel
theorem dX7_passes_203 : decode cX7_passes 203 = .ok (.iaload, 1) := by decide +kernel
theorem dX7_passes_204 : decode cX7_passes 204 = .ok (.bipush 99, 2) := by decide +kernel
theorem dX7_passes_206 : decode cX7_passes 206 = .ok (.if_icmp .ge 14, 3) := by decide +kernel
theorem dX7_passes_209 : decode cX7_passes 209 = .ok (.aload_n 0, 1) := by decide +kernel
theorem dX7_passes_210 : decode cX7_passes 210 = .ok (.getfield 50, 3) := by decide +kernel
theorem dX7_passes_213 : decode cX7_passes 213 = .ok (.iload_n 1, 1) := by decide +kernel
theorem dX7_passes_214 : decode cX7_passes 214 = .ok (.iaload, 1) := by decide +kernel
theorem dX7_passes_215 : decode cX7_passes 215 = .ok (.iconst 1, 1) := by decide +kernel
theorem dX7_passes_216 : decode cX7_passes 216 = .ok (.iadd, 1) := by decide +kernel
theorem dX7_passes_217 : decode cX7_passes 217 = .ok (.goto 5, 3) := by decide +kernel
theorem dX7_passes_220 : decode cX7_passes 220 = .ok (.bipush 99, 2) := by decide +kernel
theorem dX7_passes_222 : decode cX7_passes 222 = .ok (.iastore, 1) := by decide +kernel
theorem dX7_passes_223 : decode cX7_passes 223 = .ok (.iinc 1 1, 3) := by decide +kernel
theorem dX7_passes_226 : decode cX7_passes 226 = .ok (.goto (-90), 3) := by decide +kernel
theorem dX7_passes_229 : decode cX7_passes 229 = .ok (.aload_n 0, 1) := by decide +kernel
theorem dX7_passes_230 : decode cX7_passes 230 = .ok (.dup, 1) := by decide +kernel
theorem dX7_passes_231 : decode cX7_passes 231 = .ok (.getfield 207, 3) := by decide +kernel
theorem dX7_passes_234 : decode cX7_passes 234 = .ok (.iconst 1, 1) := by decide +kernel
theorem dX7_passes_235 : decode cX7_passes 235 = .ok (.iadd, 1) := by decide +kernel
theorem dX7_passes_236 : decode cX7_passes 236 = .ok (.putfield 207, 3) := by decide +kernel
theorem dX7_passes_239 : decode cX7_passes 239 = .ok (.return_, 1) := by decide +kernel
theorem dX7_picks_0 : decode cX7_picks 0 = .ok (.aload_n 0, 1) := by decide +kernel
theorem dX7_picks_1 : decode cX7_picks 1 = .ok (.iload_n 1, 1) := by decide +kernel
theorem dX7_picks_2 : decode cX7_picks 2 = .ok (.invokevirtual 161, 3) := by decide +kernel
theorem dX7_picks_5 : decode cX7_picks 5 = .ok (.ifCond .ne 9, 3) := by decide +kernel
theorem dX7_picks_8 : decode cX7_picks 8 = .ok (.aload_n 0, 1) := by decide +kernel
theorem dX7_picks_9 : decode cX7_picks 9 = .ok (.iconst (-1), 1) := by decide +kernel
theorem dX7_picks_10 : decode cX7_picks 10 = .ok (.invokevirtual 164, 3) := by decide +kernel
theorem dX7_picks_13 : decode cX7_picks 13 = .ok (.ireturn, 1) := by decide +kernel
theorem dX7_picks_14 : decode cX7_picks 14 = .ok (.aload_n 0, 1) := by decide +kernel
theorem dX7_picks_15 : decode cX7_picks 15 = .ok (.invokevirtual 236, 3) := by decide +kernel
theorem dX7_picks_18 : decode cX7_picks 18 = .ok (.aload_n 0, 1) := by decide +kernel
theorem dX7_picks_19 : decode cX7_picks 19 = .ok (.getfield 99, 3) := by decide +kernel
theorem dX7_picks_22 : decode cX7_picks 22 = .ok (.iload_n 1, 1) := by decide +kernel
theorem dX7_picks_23 : decode cX7_picks 23 = .ok (.iaload, 1) := by decide +kernel
theorem dX7_picks_24 : decode cX7_picks 24 = .ok (.ireturn, 1) := by decide +kernel
theorem dX7_kept_0 : decode cX7_kept 0 = .ok (.aload_n 0, 1) := by decide +kernel
theorem dX7_kept_1 : decode cX7_kept 1 = .ok (.invokevirtual 236, 3) := by decide +kernel
theorem dX7_kept_4 : decode cX7_kept 4 = .ok (.aload_n 0, 1) := by decide +kernel
theorem dX7_kept_5 : decode cX7_kept 5 = .ok (.getfield 230, 3) := by decide +kernel
theorem dX7_kept_8 : decode cX7_kept 8 = .ok (.ireturn, 1) := by decide +kernel
theorem dX7_pickedBy_0 : decode cX7_pickedBy 0 = .ok (.iconst 0, 1) := by decide +kernel
theorem dX7_pickedBy_1 : decode cX7_pickedBy 1 = .ok (.istore_n 2, 1) := by decide +kernel
theorem dX7_pickedBy_2 : decode cX7_pickedBy 2 = .ok (.iconst 0, 1) := by decide +kernel
theorem dX7_pickedBy_3 : decode cX7_pickedBy 3 = .ok (.istore_n 3, 1) := by decide +kernel
theorem dX7_pickedBy_4 : decode cX7_pickedBy 4 = .ok (.iload_n 3, 1) := by decide +kernel
theorem dX7_pickedBy_5 : decode cX7_pickedBy 5 = .ok (.aload_n 0, 1) := by decide +kernel
theorem dX7_pickedBy_6 : decode cX7_pickedBy 6 = .ok (.getfield 132, 3) := by decide +kernel
theorem dX7_pickedBy_9 : decode cX7_pickedBy 9 = .ok (.if_icmp .ge 25, 3) := by decide +kernel
theorem dX7_pickedBy_12 : decode cX7_pickedBy 12 = .ok (.aload_n 0, 1) := by decide +kernel
theorem dX7_pickedBy_13 : decode cX7_pickedBy 13 = .ok (.getfield 99, 3) := by decide +kernel
theorem dX7_pickedBy_16 : decode cX7_pickedBy 16 = .ok (.iload_n 3, 1) := by decide +kernel
theorem dX7_pickedBy_17 : decode cX7_pickedBy 17 = .ok (.iaload, 1) := by decide +kernel
theorem dX7_pickedBy_18 : decode cX7_pickedBy 18 = .ok (.iload_n 1, 1) := by decide +kernel
theorem dX7_pickedBy_19 : decode cX7_pickedBy 19 = .ok (.if_icmp .ne 9, 3) := by decide +kernel
theorem dX7_pickedBy_22 : decode cX7_pickedBy 22 = .ok (.iload_n 2, 1) := by decide +kernel
theorem dX7_pickedBy_23 : decode cX7_pickedBy 23 = .ok (.iconst 1, 1) := by decide +kernel
theorem dX7_pickedBy_24 : decode cX7_pickedBy 24 = .ok (.iload_n 3, 1) := by decide +kernel
theorem dX7_pickedBy_25 : decode cX7_pickedBy 25 = .ok (.ishl, 1) := by decide +kernel
theorem dX7_pickedBy_26 : decode cX7_pickedBy 26 = .ok (.iadd, 1) := by decide +kernel
theorem dX7_pickedBy_27 : decode cX7_pickedBy 27 = .ok (.istore_n 2, 1) := by decide +kernel
theorem dX7_pickedBy_28 : decode cX7_pickedBy 28 = .ok (.iinc 3 1, 3) := by decide +kernel
theorem dX7_pickedBy_31 : decode cX7_pickedBy 31 = .ok (.goto (-27), 3) := by decide +kernel
theorem dX7_pickedBy_34 : decode cX7_pickedBy 34 = .ok (.iload_n 2, 1) := by decide +kernel
theorem dX7_pickedBy_35 : decode cX7_pickedBy 35 = .ok (.ireturn, 1) := by decide +kernel
theorem dX7_picked_0 : decode cX7_picked 0 = .ok (.aload_n 0, 1) := by decide +kernel
theorem dX7_picked_1 : decode cX7_picked 1 = .ok (.iload_n 1, 1) := by decide +kernel
theorem dX7_picked_2 : decode cX7_picked 2 = .ok (.invokevirtual 143, 3) := by decide +kernel
theorem dX7_picked_5 : decode cX7_picked 5 = .ok (.ifCond .ne 9, 3) := by decide +kernel
theorem dX7_picked_8 : decode cX7_picked 8 = .ok (.aload_n 0, 1) := by decide +kernel
theorem dX7_picked_9 : decode cX7_picked 9 = .ok (.iconst (-1), 1) := by decide +kernel
theorem dX7_picked_10 : decode cX7_picked 10 = .ok (.invokevirtual 139, 3) := by decide +kernel
theorem dX7_picked_13 : decode cX7_picked 13 = .ok (.ireturn, 1) := by decide +kernel
theorem dX7_picked_14 : decode cX7_picked 14 = .ok (.iload_n 2, 1) := by decide +kernel
theorem dX7_picked_15 : decode cX7_picked 15 = .ok (.ifCond .lt 8, 3) := by decide +kernel
theorem dX7_picked_18 : decode cX7_picked 18 = .ok (.iload_n 2, 1) := by decide +kernel
theorem dX7_picked_19 : decode cX7_picked 19 = .ok (.iconst 1, 1) := by decide +kernel
theorem dX7_picked_20 : decode cX7_picked 20 = .ok (.if_icmp .le 10, 3) := by decide +kernel
theorem dX7_picked_23 : decode cX7_picked 23 = .ok (.aload_n 0, 1) := by decide +kernel
theorem dX7_picked_24 : decode cX7_picked 24 = .ok (.bipush (-5), 2) := by decide +kernel
theorem dX7_picked_26 : decode cX7_picked 26 = .ok (.invokevirtual 139, 3) := by decide +kernel
theorem dX7_picked_29 : decode cX7_picked 29 = .ok (.ireturn, 1) := by decide +kernel
theorem dX7_picked_30 : decode cX7_picked 30 = .ok (.aload_n 0, 1) := by decide +kernel
theorem dX7_picked_31 : decode cX7_picked 31 = .ok (.invokevirtual 236, 3) := by decide +kernel
theorem dX7_picked_34 : decode cX7_picked 34 = .ok (.iload_n 2, 1) := by decide +kernel
theorem dX7_picked_35 : decode cX7_picked 35 = .ok (.ifCond .ne 11, 3) := by decide +kernel
theorem dX7_picked_38 : decode cX7_picked 38 = .ok (.aload_n 0, 1) := by decide +kernel
theorem dX7_picked_39 : decode cX7_picked 39 = .ok (.iload_n 1, 1) := by decide +kernel
theorem dX7_picked_40 : decode cX7_picked 40 = .ok (.invokevirtual 239, 3) := by decide +kernel
theorem dX7_picked_43 : decode cX7_picked 43 = .ok (.goto 9, 3) := by decide +kernel
theorem dX7_picked_46 : decode cX7_picked 46 = .ok (.aload_n 0, 1) := by decide +kernel
theorem dX7_picked_47 : decode cX7_picked 47 = .ok (.getfield 108, 3) := by decide +kernel
theorem dX7_picked_50 : decode cX7_picked 50 = .ok (.iload_n 1, 1) := by decide +kernel
theorem dX7_picked_51 : decode cX7_picked 51 = .ok (.iaload, 1) := by decide +kernel
theorem dX7_picked_52 : decode cX7_picked 52 = .ok (.ireturn, 1) := by decide +kernel
theorem dX7_wear_0 : decode cX7_wear 0 = .ok (.aload_n 0, 1) := by decide +kernel
theorem dX7_wear_1 : decode cX7_wear 1 = .ok (.iload_n 1, 1) := by decide +kernel
theorem dX7_wear_2 : decode cX7_wear 2 = .ok (.invokevirtual 143, 3) := by decide +kernel
theorem dX7_wear_5 : decode cX7_wear 5 = .ok (.ifCond .ne 9, 3) := by decide +kernel
theorem dX7_wear_8 : decode cX7_wear 8 = .ok (.aload_n 0, 1) := by decide +kernel
theorem dX7_wear_9 : decode cX7_wear 9 = .ok (.iconst (-1), 1) := by decide +kernel
theorem dX7_wear_10 : decode cX7_wear 10 = .ok (.invokevirtual 139, 3) := by decide +kernel
theorem dX7_wear_13 : decode cX7_wear 13 = .ok (.ireturn, 1) := by decide +kernel
theorem dX7_wear_14 : decode cX7_wear 14 = .ok (.aload_n 0, 1) := by decide +kernel
theorem dX7_wear_15 : decode cX7_wear 15 = .ok (.iload_n 2, 1) := by decide +kernel
theorem dX7_wear_16 : decode cX7_wear 16 = .ok (.iconst 0, 1) := by decide +kernel
theorem dX7_wear_17 : decode cX7_wear 17 = .ok (.bipush 40, 2) := by decide +kernel
theorem dX7_wear_19 : decode cX7_wear 19 = .ok (.invokevirtual 149, 3) := by decide +kernel
theorem dX7_wear_22 : decode cX7_wear 22 = .ok (.ifCond .ne 10, 3) := by decide +kernel
theorem dX7_wear_25 : decode cX7_wear 25 = .ok (.aload_n 0, 1) := by decide +kernel
theorem dX7_wear_26 : decode cX7_wear 26 = .ok (.bipush (-6), 2) := by decide +kernel
theorem dX7_wear_28 : decode cX7_wear 28 = .ok (.invokevirtual 139, 3) := by decide +kernel
theorem dX7_wear_31 : decode cX7_wear 31 = .ok (.ireturn, 1) := by decide +kernel
theorem dX7_wear_32 : decode cX7_wear 32 = .ok (.aload_n 0, 1) := by decide +kernel
theorem dX7_wear_33 : decode cX7_wear 33 = .ok (.aload_n 0, 1) := by decide +kernel
theorem dX7_wear_34 : decode cX7_wear 34 = .ok (.getfield 93, 3) := by decide +kernel
theorem dX7_wear_37 : decode cX7_wear 37 = .ok (.iconst 0, 1) := by decide +kernel
theorem dX7_wear_38 : decode cX7_wear 38 = .ok (.invokevirtual 213, 3) := by decide +kernel
theorem dX7_wear_41 : decode cX7_wear 41 = .ok (.iconst 0, 1) := by decide +kernel
theorem dX7_wear_42 : decode cX7_wear 42 = .ok (.istore_n 3, 1) := by decide +kernel
theorem dX7_wear_43 : decode cX7_wear 43 = .ok (.iload_n 3, 1) := by decide +kernel
theorem dX7_wear_44 : decode cX7_wear 44 = .ok (.iload_n 2, 1) := by decide +kernel
theorem dX7_wear_45 : decode cX7_wear 45 = .ok (.if_icmp .ge 13, 3) := by decide +kernel
theorem dX7_wear_48 : decode cX7_wear 48 = .ok (.aload_n 0, 1) := by decide +kernel
theorem dX7_wear_49 : decode cX7_wear 49 = .ok (.invokevirtual 242, 3) := by decide +kernel
theorem dX7_wear_52 : decode cX7_wear 52 = .ok (.iinc 3 1, 3) := by decide +kernel
theorem dX7_wear_55 : decode cX7_wear 55 = .ok (.goto (-12), 3) := by decide +kernel
theorem dX7_wear_58 : decode cX7_wear 58 = .ok (.aload_n 0, 1) := by decide +kernel
theorem dX7_wear_59 : decode cX7_wear 59 = .ok (.getfield 32, 3) := by decide +kernel
theorem dX7_wear_62 : decode cX7_wear 62 = .ok (.iload_n 1, 1) := by decide +kernel
theorem dX7_wear_63 : decode cX7_wear 63 = .ok (.iaload, 1) := by decide +kernel
theorem dX7_wear_64 : decode cX7_wear 64 = .ok (.istore_n 3, 1) := by decide +kernel
theorem dX7_wear_65 : decode cX7_wear 65 = .ok (.aload_n 0, 1) := by decide +kernel
theorem dX7_wear_66 : decode cX7_wear 66 = .ok (.aload_n 0, 1) := by decide +kernel
theorem dX7_wear_67 : decode cX7_wear 67 = .ok (.getfield 93, 3) := by decide +kernel
theorem dX7_wear_70 : decode cX7_wear 70 = .ok (.iconst 1, 1) := by decide +kernel
theorem dX7_wear_71 : decode cX7_wear 71 = .ok (.invokevirtual 213, 3) := by decide +kernel
theorem dX7_wear_74 : decode cX7_wear 74 = .ok (.iload_n 3, 1) := by decide +kernel
theorem dX7_wear_75 : decode cX7_wear 75 = .ok (.ireturn, 1) := by decide +kernel
theorem dX7_unkept_0 : decode cX7_unkept 0 = .ok (.iload_n 2, 1) := by decide +kernel
theorem dX7_unkept_1 : decode cX7_unkept 1 = .ok (.ifCond .lt 8, 3) := by decide +kernel
theorem dX7_unkept_4 : decode cX7_unkept 4 = .ok (.iload_n 2, 1) := by decide +kernel
theorem dX7_unkept_5 : decode cX7_unkept 5 = .ok (.iconst 1, 1) := by decide +kernel
theorem dX7_unkept_6 : decode cX7_unkept 6 = .ok (.if_icmp .le 10, 3) := by decide +kernel
theorem dX7_unkept_9 : decode cX7_unkept 9 = .ok (.aload_n 0, 1) := by decide +kernel
theorem dX7_unkept_10 : decode cX7_unkept 10 = .ok (.bipush (-5), 2) := by decide +kernel
theorem dX7_unkept_12 : decode cX7_unkept 12 = .ok (.invokevirtual 164, 3) := by decide +kernel
theorem dX7_unkept_15 : decode cX7_unkept 15 = .ok (.ireturn, 1) := by decide +kernel
theorem dX7_unkept_16 : decode cX7_unkept 16 = .ok (.aload_n 0, 1) := by decide +kernel
theorem dX7_unkept_17 : decode cX7_unkept 17 = .ok (.iload_n 1, 1) := by decide +kernel
theorem dX7_unkept_18 : decode cX7_unkept 18 = .ok (.iconst 0, 1) := by decide +kernel
theorem dX7_unkept_19 : decode cX7_unkept 19 = .ok (.bipush 40, 2) := by decide +kernel
theorem dX7_unkept_21 : decode cX7_unkept 21 = .ok (.invokevirtual 149, 3) := by decide +kernel
theorem dX7_unkept_24 : decode cX7_unkept 24 = .ok (.ifCond .ne 10, 3) := by decide +kernel
theorem dX7_unkept_27 : decode cX7_unkept 27 = .ok (.aload_n 0, 1) := by decide +kernel
theorem dX7_unkept_28 : decode cX7_unkept 28 = .ok (.bipush (-6), 2) := by decide +kernel
theorem dX7_unkept_30 : decode cX7_unkept 30 = .ok (.invokevirtual 164, 3) := by decide +kernel
theorem dX7_unkept_33 : decode cX7_unkept 33 = .ok (.ireturn, 1) := by decide +kernel
theorem dX7_unkept_34 : decode cX7_unkept 34 = .ok (.iconst 0, 1) := by decide +kernel
theorem dX7_unkept_35 : decode cX7_unkept 35 = .ok (.istore_n 3, 1) := by decide +kernel
theorem dX7_unkept_36 : decode cX7_unkept 36 = .ok (.iconst (-1), 1) := by decide +kernel
theorem dX7_unkept_37 : decode cX7_unkept 37 = .ok (.istore 4, 2) := by decide +kernel
theorem dX7_unkept_39 : decode cX7_unkept 39 = .ok (.aload_n 0, 1) := by decide +kernel
theorem dX7_unkept_40 : decode cX7_unkept 40 = .ok (.aload_n 0, 1) := by decide +kernel
theorem dX7_unkept_41 : decode cX7_unkept 41 = .ok (.getfield 93, 3) := by decide +kernel
theorem dX7_unkept_44 : decode cX7_unkept 44 = .ok (.iconst 0, 1) := by decide +kernel
theorem dX7_unkept_45 : decode cX7_unkept 45 = .ok (.invokevirtual 213, 3) := by decide +kernel
theorem dX7_unkept_48 : decode cX7_unkept 48 = .ok (.iconst 1, 1) := by decide +kernel
theorem dX7_unkept_49 : decode cX7_unkept 49 = .ok (.istore 5, 2) := by decide +kernel
theorem dX7_unkept_51 : decode cX7_unkept 51 = .ok (.iload 5, 2) := by decide +kernel
theorem dX7_unkept_53 : decode cX7_unkept 53 = .ok (.iload_n 1, 1) := by decide +kernel
theorem dX7_unkept_54 : decode cX7_unkept 54 = .ok (.if_icmp .gt 37, 3) := by decide +kernel
theorem dX7_unkept_57 : decode cX7_unkept 57 = .ok (.aload_n 0, 1) := by decide +kernel
theorem dX7_unkept_58 : decode cX7_unkept 58 = .ok (.invokevirtual 242, 3) := by decide +kernel
theorem dX7_unkept_61 : decode cX7_unkept 61 = .ok (.iload_n 3, 1) := by decide +kernel
theorem dX7_unkept_62 : decode cX7_unkept 62 = .ok (.aload_n 0, 1) := by decide +kernel
theorem dX7_unkept_63 : decode cX7_unkept 63 = .ok (.getfield 227, 3) := by decide +kernel
theorem dX7_unkept_66 : decode cX7_unkept 66 = .ok (.iadd, 1) := by decide +kernel
theorem dX7_unkept_67 : decode cX7_unkept 67 = .ok (.istore_n 3, 1) := by decide +kernel
theorem dX7_unkept_68 : decode cX7_unkept 68 = .ok (.aload_n 0, 1) := by decide +kernel
theorem dX7_unkept_69 : decode cX7_unkept 69 = .ok (.getfield 227, 3) := by decide +kernel
theorem dX7_unkept_72 : decode cX7_unkept 72 = .ok (.ifCond .le 13, 3) := by decide +kernel
theorem dX7_unkept_75 : decode cX7_unkept 75 = .ok (.iload 4, 2) := by decide +kernel
theorem dX7_unkept_77 : decode cX7_unkept 77 = .ok (.iconst (-1), 1) := by decide +kernel
theorem dX7_unkept_78 : decode cX7_unkept 78 = .ok (.if_icmp .ne 7, 3) := by decide +kernel
theorem dX7_unkept_81 : decode cX7_unkept 81 = .ok (.iload 5, 2) := by decide +kernel
theorem dX7_unkept_83 : decode cX7_unkept 83 = .ok (.istore 4, 2) := by decide +kernel
theorem dX7_unkept_85 : decode cX7_unkept 85 = .ok (.iinc 5 1, 3) := by decide +kernel
theorem dX7_unkept_88 : decode cX7_unkept 88 = .ok (.goto (-37), 3) := by decide +kernel
theorem dX7_unkept_91 : decode cX7_unkept 91 = .ok (.aload_n 0, 1) := by decide +kernel
theorem dX7_unkept_92 : decode cX7_unkept 92 = .ok (.aload_n 0, 1) := by decide +kernel
theorem dX7_unkept_93 : decode cX7_unkept 93 = .ok (.getfield 93, 3) := by decide +kernel
theorem dX7_unkept_96 : decode cX7_unkept 96 = .ok (.iconst 1, 1) := by decide +kernel
theorem dX7_unkept_97 : decode cX7_unkept 97 = .ok (.invokevirtual 213, 3) := by decide +kernel
theorem dX7_unkept_100 : decode cX7_unkept 100 = .ok (.iload_n 2, 1) := by decide +kernel
theorem dX7_unkept_101 : decode cX7_unkept 101 = .ok (.ifCond .ne 7, 3) := by decide +kernel
theorem dX7_unkept_104 : decode cX7_unkept 104 = .ok (.iload_n 3, 1) := by decide +kernel
theorem dX7_unkept_105 : decode cX7_unkept 105 = .ok (.goto 5, 3) := by decide +kernel
theorem dX7_unkept_108 : decode cX7_unkept 108 = .ok (.iload 4, 2) := by decide +kernel
theorem dX7_unkept_110 : decode cX7_unkept 110 = .ok (.ireturn, 1) := by decide +kernel
theorem dX7_files_0 : decode cX7_files 0 = .ok (.aload_n 0, 1) := by decide +kernel
theorem dX7_files_1 : decode cX7_files 1 = .ok (.iconst 0, 1) := by decide +kernel
theorem dX7_files_2 : decode cX7_files 2 = .ok (.putfield 245, 3) := by decide +kernel
theorem dX7_files_5 : decode cX7_files 5 = .ok (.iconst 0, 1) := by decide +kernel
theorem dX7_files_6 : decode cX7_files 6 = .ok (.istore_n 1, 1) := by decide +kernel
theorem dX7_files_7 : decode cX7_files 7 = .ok (.iload_n 1, 1) := by decide +kernel
theorem dX7_files_8 : decode cX7_files 8 = .ok (.aload_n 0, 1) := by decide +kernel
theorem dX7_files_9 : decode cX7_files 9 = .ok (.getfield 132, 3) := by decide +kernel
theorem dX7_files_12 : decode cX7_files 12 = .ok (.if_icmp .ge 35, 3) := by decide +kernel
theorem dX7_files_15 : decode cX7_files 15 = .ok (.aload_n 0, 1) := by decide +kernel
theorem dX7_files_16 : decode cX7_files 16 = .ok (.getfield 53, 3) := by decide +kernel
theorem dX7_files_19 : decode cX7_files 19 = .ok (.iload_n 1, 1) := by decide +kernel
theorem dX7_files_20 : decode cX7_files 20 = .ok (.iaload, 1) := by decide +kernel
theorem dX7_files_21 : decode cX7_files 21 = .ok (.ifCond .ne 20, 3) := by decide +kernel
theorem dX7_files_24 : decode cX7_files 24 = .ok (.aload_n 0, 1) := by decide +kernel
theorem dX7_files_25 : decode cX7_files 25 = .ok (.getfield 114, 3) := by decide +kernel
theorem dX7_files_28 : decode cX7_files 28 = .ok (.aload_n 0, 1) := by decide +kernel
theorem dX7_files_29 : decode cX7_files 29 = .ok (.dup, 1) := by decide +kernel
theorem dX7_files_30 : decode cX7_files 30 = .ok (.getfield 245, 3) := by decide +kernel
theorem dX7_files_33 : decode cX7_files 33 = .ok (.dup_x1, 1) := by decide +kernel
theorem dX7_files_34 : decode cX7_files 34 = .ok (.iconst 1, 1) := by decide +kernel
theorem dX7_files_35 : decode cX7_files 35 = .ok (.iadd, 1) := by decide +kernel
theorem dX7_files_36 : decode cX7_files 36 = .ok (.putfield 245, 3) := by decide +kernel
theorem dX7_files_39 : decode cX7_files 39 = .ok (.iload_n 1, 1) := by decide +kernel
theorem dX7_files_40 : decode cX7_files 40 = .ok (.iastore, 1) := by decide +kernel
theorem dX7_files_41 : decode cX7_files 41 = .ok (.iinc 1 1, 3) := by decide +kernel
theorem dX7_files_44 : decode cX7_files 44 = .ok (.goto (-37), 3) := by decide +kernel
theorem dX7_files_47 : decode cX7_files 47 = .ok (.return_, 1) := by decide +kernel
theorem dX7_parts_0 : decode cX7_parts 0 = .ok (.iload_n 1, 1) := by decide +kernel
theorem dX7_parts_1 : decode cX7_parts 1 = .ok (.aload_n 0, 1) := by decide +kernel
theorem dX7_parts_2 : decode cX7_parts 2 = .ok (.getfield 245, 3) := by decide +kernel
theorem dX7_parts_5 : decode cX7_parts 5 = .ok (.if_icmp .ge 96, 3) := by decide +kernel
theorem dX7_parts_8 : decode cX7_parts 8 = .ok (.aload_n 0, 1) := by decide +kernel
theorem dX7_parts_9 : decode cX7_parts 9 = .ok (.getfield 41, 3) := by decide +kernel
theorem dX7_parts_12 : decode cX7_parts 12 = .ok (.aload_n 0, 1) := by decide +kernel
theorem dX7_parts_13 : decode cX7_parts 13 = .ok (.getfield 114, 3) := by decide +kernel
theorem dX7_parts_16 : decode cX7_parts 16 = .ok (.iload_n 1, 1) := by decide +kernel
theorem dX7_parts_17 : decode cX7_parts 17 = .ok (.iaload, 1) := by decide +kernel
theorem dX7_parts_18 : decode cX7_parts 18 = .ok (.iaload, 1) := by decide +kernel
theorem dX7_parts_19 : decode cX7_parts 19 = .ok (.istore_n 2, 1) := by decide +kernel
theorem dX7_parts_20 : decode cX7_parts 20 = .ok (.iconst 0, 1) := by decide +kernel
theorem dX7_parts_21 : decode cX7_parts 21 = .ok (.istore_n 3, 1) := by decide +kernel
theorem dX7_parts_22 : decode cX7_parts 22 = .ok (.iload_n 3, 1) := by decide +kernel
theorem dX7_parts_23 : decode cX7_parts 23 = .ok (.aload_n 0, 1) := by decide +kernel
theorem dX7_parts_24 : decode cX7_parts 24 = .ok (.getfield 129, 3) := by decide +kernel
theorem dX7_parts_27 : decode cX7_parts 27 = .ok (.if_icmp .ge 73, 3) := by decide +kernel
theorem dX7_parts_30 : decode cX7_parts 30 = .ok (.aload_n 0, 1) := by decide +kernel
theorem dX7_parts_31 : decode cX7_parts 31 = .ok (.getfield 38, 3) := by decide +kernel
theorem dX7_parts_34 : decode cX7_parts 34 = .ok (.iload_n 3, 1) := by decide +kernel
theorem dX7_parts_35 : decode cX7_parts 35 = .ok (.iaload, 1) := by decide +kernel
theorem dX7_parts_36 : decode cX7_parts 36 = .ok (.iconst 1, 1) := by decide +kernel
theorem dX7_parts_37 : decode cX7_parts 37 = .ok (.if_icmp .eq 57, 3) := by decide +kernel
theorem dX7_parts_40 : decode cX7_parts 40 = .ok (.aload_n 0, 1) := by decide +kernel
theorem dX7_parts_41 : decode cX7_parts 41 = .ok (.getfield 123, 3) := by decide +kernel
theorem dX7_parts_44 : decode cX7_parts 44 = .ok (.iload_n 3, 1) := by decide +kernel
theorem dX7_parts_45 : decode cX7_parts 45 = .ok (.iaload, 1) := by decide +kernel
theorem dX7_parts_46 : decode cX7_parts 46 = .ok (.iload_n 2, 1) := by decide +kernel
theorem dX7_parts_47 : decode cX7_parts 47 = .ok (.iadd, 1) := by decide +kernel
theorem dX7_parts_48 : decode cX7_parts 48 = .ok (.aload_n 0, 1) := by decide +kernel
theorem dX7_parts_49 : decode cX7_parts 49 = .ok (.getfield 26, 3) := by decide +kernel
theorem dX7_parts_52 : decode cX7_parts 52 = .ok (.iload_n 3, 1) := by decide +kernel
theorem dX7_parts_53 : decode cX7_parts 53 = .ok (.iaload, 1) := by decide +kernel
theorem dX7_parts_54 : decode cX7_parts 54 = .ok (.if_icmp .le 6, 3) := by decide +kernel
theorem dX7_parts_57 : decode cX7_parts 57 = .ok (.goto 37, 3) := by decide +kernel
theorem dX7_parts_60 : decode cX7_parts 60 = .ok (.aload_n 0, 1) := by decide +kernel
theorem dX7_parts_61 : decode cX7_parts 61 = .ok (.getfield 117, 3) := by decide +kernel
theorem dX7_parts_64 : decode cX7_parts 64 = .ok (.iload_n 1, 1) := by decide +kernel
theorem dX7_parts_65 : decode cX7_parts 65 = .ok (.iload_n 3, 1) := by decide +kernel
theorem dX7_parts_66 : decode cX7_parts 66 = .ok (.iastore, 1) := by decide +kernel
theorem dX7_parts_67 : decode cX7_parts 67 = .ok (.aload_n 0, 1) := by decide +kernel
theorem dX7_parts_68 : decode cX7_parts 68 = .ok (.getfield 123, 3) := by decide +kernel
theorem dX7_parts_71 : decode cX7_parts 71 = .ok (.iload_n 3, 1) := by decide +kernel
theorem dX7_parts_72 : decode cX7_parts 72 = .ok (.dup2, 1) := by decide +kernel
theorem dX7_parts_73 : decode cX7_parts 73 = .ok (.iaload, 1) := by decide +kernel
theorem dX7_parts_74 : decode cX7_parts 74 = .ok (.iload_n 2, 1) := by decide +kernel
theorem dX7_parts_75 : decode cX7_parts 75 = .ok (.iadd, 1) := by decide +kernel
theorem dX7_parts_76 : decode cX7_parts 76 = .ok (.iastore, 1) := by decide +kernel
theorem dX7_parts_77 : decode cX7_parts 77 = .ok (.aload_n 0, 1) := by decide +kernel
theorem dX7_parts_78 : decode cX7_parts 78 = .ok (.iload_n 1, 1) := by decide +kernel
theorem dX7_parts_79 : decode cX7_parts 79 = .ok (.iconst 1, 1) := by decide +kernel
theorem dX7_parts_80 : decode cX7_parts 80 = .ok (.iadd, 1) := by decide +kernel
theorem dX7_parts_81 : decode cX7_parts 81 = .ok (.invokevirtual 248, 3) := by decide +kernel
theorem dX7_parts_84 : decode cX7_parts 84 = .ok (.aload_n 0, 1) := by decide +kernel
theorem dX7_parts_85 : decode cX7_parts 85 = .ok (.getfield 123, 3) := by decide +kernel
theorem dX7_parts_88 : decode cX7_parts 88 = .ok (.iload_n 3, 1) := by decide +kernel
theorem dX7_parts_89 : decode cX7_parts 89 = .ok (.dup2, 1) := by decide +kernel
theorem dX7_parts_90 : decode cX7_parts 90 = .ok (.iaload, 1) := by decide +kernel
theorem dX7_parts_91 : decode cX7_parts 91 = .ok (.iload_n 2, 1) := by decide +kernel
theorem dX7_parts_92 : decode cX7_parts 92 = .ok (.isub, 1) := by decide +kernel
theorem dX7_parts_93 : decode cX7_parts 93 = .ok (.iastore, 1) := by decide +kernel
theorem dX7_parts_94 : decode cX7_parts 94 = .ok (.iinc 3 1, 3) := by decide +kernel
theorem dX7_parts_97 : decode cX7_parts 97 = .ok (.goto (-75), 3) := by decide +kernel
theorem dX7_parts_100 : decode cX7_parts 100 = .ok (.return_, 1) := by decide +kernel
theorem dX7_parts_101 : decode cX7_parts 101 = .ok (.iconst 0, 1) := by decide +kernel
theorem dX7_parts_102 : decode cX7_parts 102 = .ok (.istore_n 2, 1) := by decide +kernel
theorem dX7_parts_103 : decode cX7_parts 103 = .ok (.iconst 0, 1) := by decide +kernel
theorem dX7_parts_104 : decode cX7_parts 104 = .ok (.istore_n 3, 1) := by decide +kernel
theorem dX7_parts_105 : decode cX7_parts 105 = .ok (.iload_n 3, 1) := by decide +kernel
theorem dX7_parts_106 : decode cX7_parts 106 = .ok (.aload_n 0, 1) := by decide +kernel
theorem dX7_parts_107 : decode cX7_parts 107 = .ok (.getfield 129, 3) := by decide +kernel
theorem dX7_parts_110 : decode cX7_parts 110 = .ok (.if_icmp .ge 26, 3) := by decide +kernel
theorem dX7_parts_113 : decode cX7_parts 113 = .ok (.aload_n 0, 1) := by decide +kernel
theorem dX7_parts_114 : decode cX7_parts 114 = .ok (.getfield 123, 3) := by decide +kernel
theorem dX7_parts_117 : decode cX7_parts 117 = .ok (.iload_n 3, 1) := by decide +kernel
theorem dX7_parts_118 : decode cX7_parts 118 = .ok (.iaload, 1) := by decide +kernel
theorem dX7_parts_119 : decode cX7_parts 119 = .ok (.iload_n 2, 1) := by decide +kernel
theorem dX7_parts_120 : decode cX7_parts 120 = .ok (.if_icmp .le 10, 3) := by decide +kernel
theorem dX7_parts_123 : decode cX7_parts 123 = .ok (.aload_n 0, 1) := by decide +kernel
theorem dX7_parts_124 : decode cX7_parts 124 = .ok (.getfield 123, 3) := by decide +kernel
theorem dX7_parts_127 : decode cX7_parts 127 = .ok (.iload_n 3, 1) := by decide +kernel
theorem dX7_parts_128 : decode cX7_parts 128 = .ok (.iaload, 1) := by decide +kernel
theorem dX7_parts_129 : decode cX7_parts 129 = .ok (.istore_n 2, 1) := by decide +kernel
theorem dX7_parts_130 : decode cX7_parts 130 = .ok (.iinc 3 1, 3) := by decide +kernel
theorem dX7_parts_133 : decode cX7_parts 133 = .ok (.goto (-28), 3) := by decide +kernel
theorem dX7_parts_136 : decode cX7_parts 136 = .ok (.aload_n 0, 1) := by decide +kernel
theorem dX7_parts_137 : decode cX7_parts 137 = .ok (.getfield 252, 3) := by decide +kernel
theorem dX7_parts_140 : decode cX7_parts 140 = .ok (.iconst (-1), 1) := by decide +kernel
theorem dX7_parts_141 : decode cX7_parts 141 = .ok (.if_icmp .eq 12, 3) := by decide +kernel
theorem dX7_parts_144 : decode cX7_parts 144 = .ok (.iload_n 2, 1) := by decide +kernel
theorem dX7_parts_145 : decode cX7_parts 145 = .ok (.aload_n 0, 1) := by decide +kernel
theorem dX7_parts_146 : decode cX7_parts 146 = .ok (.getfield 252, 3) := by decide +kernel
theorem dX7_parts_149 : decode cX7_parts 149 = .ok (.if_icmp .lt 4, 3) := by decide +kernel
theorem dX7_parts_152 : decode cX7_parts 152 = .ok (.return_, 1) := by decide +kernel
theorem dX7_parts_153 : decode cX7_parts 153 = .ok (.aload_n 0, 1) := by decide +kernel
theorem dX7_parts_154 : decode cX7_parts 154 = .ok (.iload_n 2, 1) := by decide +kernel
theorem dX7_parts_155 : decode cX7_parts 155 = .ok (.putfield 252, 3) := by decide +kernel
theorem dX7_parts_158 : decode cX7_parts 158 = .ok (.iconst 0, 1) := by decide +kernel
theorem dX7_parts_159 : decode cX7_parts 159 = .ok (.istore_n 3, 1) := by decide +kernel
theorem dX7_parts_160 : decode cX7_parts 160 = .ok (.iload_n 3, 1) := by decide +kernel
theorem dX7_parts_161 : decode cX7_parts 161 = .ok (.aload_n 0, 1) := by decide +kernel
theorem dX7_parts_162 : decode cX7_parts 162 = .ok (.getfield 245, 3) := by decide +kernel
theorem dX7_parts_165 : decode cX7_parts 165 = .ok (.if_icmp .ge 21, 3) := by decide +kernel
theorem dX7_parts_168 : decode cX7_parts 168 = .ok (.aload_n 0, 1) := by decide +kernel
theorem dX7_parts_169 : decode cX7_parts 169 = .ok (.getfield 120, 3) := by decide +kernel
theorem dX7_parts_172 : decode cX7_parts 172 = .ok (.iload_n 3, 1) := by decide +kernel
theorem dX7_parts_173 : decode cX7_parts 173 = .ok (.aload_n 0, 1) := by decide +kernel
theorem dX7_parts_174 : decode cX7_parts 174 = .ok (.getfield 117, 3) := by decide +kernel
theorem dX7_parts_177 : decode cX7_parts 177 = .ok (.iload_n 3, 1) := by decide +kernel
theorem dX7_parts_178 : decode cX7_parts 178 = .ok (.iaload, 1) := by decide +kernel
theorem dX7_parts_179 : decode cX7_parts 179 = .ok (.iastore, 1) := by decide +kernel
theorem dX7_parts_180 : decode cX7_parts 180 = .ok (.iinc 3 1, 3) := by decide +kernel
theorem dX7_parts_183 : decode cX7_parts 183 = .ok (.goto (-23), 3) := by decide +kernel
theorem dX7_parts_186 : decode cX7_parts 186 = .ok (.return_, 1) := by decide +kernel
theorem dX7_parting_0 : decode cX7_parting 0 = .ok (.aload_n 0, 1) := by decide +kernel
theorem dX7_parting_1 : decode cX7_parting 1 = .ok (.invokevirtual 255, 3) := by decide +kernel
theorem dX7_parting_4 : decode cX7_parting 4 = .ok (.iload_n 1, 1) := by decide +kernel
theorem dX7_parting_5 : decode cX7_parting 5 = .ok (.iconst (-1), 1) := by decide +kernel
theorem dX7_parting_6 : decode cX7_parting 6 = .ok (.if_icmp .lt 11, 3) := by decide +kernel
theorem dX7_parting_9 : decode cX7_parting 9 = .ok (.iload_n 1, 1) := by decide +kernel
theorem dX7_parting_10 : decode cX7_parting 10 = .ok (.aload_n 0, 1) := by decide +kernel
theorem dX7_parting_11 : decode cX7_parting 11 = .ok (.getfield 245, 3) := by decide +kernel
theorem dX7_parting_14 : decode cX7_parting 14 = .ok (.if_icmp .lt 10, 3) := by decide +kernel
theorem dX7_parting_17 : decode cX7_parting 17 = .ok (.aload_n 0, 1) := by decide +kernel
theorem dX7_parting_18 : decode cX7_parting 18 = .ok (.bipush (-5), 2) := by decide +kernel
theorem dX7_parting_20 : decode cX7_parting 20 = .ok (.invokevirtual 164, 3) := by decide +kernel
theorem dX7_parting_23 : decode cX7_parting 23 = .ok (.ireturn, 1) := by decide +kernel
theorem dX7_parting_24 : decode cX7_parting 24 = .ok (.aload_n 0, 1) := by decide +kernel
theorem dX7_parting_25 : decode cX7_parting 25 = .ok (.iconst (-1), 1) := by decide +kernel
theorem dX7_parting_26 : decode cX7_parting 26 = .ok (.putfield 252, 3) := by decide +kernel
theorem dX7_parting_29 : decode cX7_parting 29 = .ok (.iconst 0, 1) := by decide +kernel
theorem dX7_parting_30 : decode cX7_parting 30 = .ok (.istore_n 2, 1) := by decide +kernel
theorem dX7_parting_31 : decode cX7_parting 31 = .ok (.iload_n 2, 1) := by decide +kernel
theorem dX7_parting_32 : decode cX7_parting 32 = .ok (.bipush 6, 2) := by decide +kernel
theorem dX7_parting_34 : decode cX7_parting 34 = .ok (.if_icmp .ge 16, 3) := by decide +kernel
theorem dX7_parting_37 : decode cX7_parting 37 = .ok (.aload_n 0, 1) := by decide +kernel
theorem dX7_parting_38 : decode cX7_parting 38 = .ok (.getfield 123, 3) := by decide +kernel
theorem dX7_parting_41 : decode cX7_parting 41 = .ok (.iload_n 2, 1) := by decide +kernel
theorem dX7_parting_42 : decode cX7_parting 42 = .ok (.iconst 0, 1) := by decide +kernel
theorem dX7_parting_43 : decode cX7_parting 43 = .ok (.iastore, 1) := by decide +kernel
theorem dX7_parting_44 : decode cX7_parting 44 = .ok (.iinc 2 1, 3) := by decide +kernel
theorem dX7_parting_47 : decode cX7_parting 47 = .ok (.goto (-16), 3) := by decide +kernel
theorem dX7_parting_50 : decode cX7_parting 50 = .ok (.aload_n 0, 1) := by decide +kernel
theorem dX7_parting_51 : decode cX7_parting 51 = .ok (.iconst 0, 1) := by decide +kernel
theorem dX7_parting_52 : decode cX7_parting 52 = .ok (.invokevirtual 248, 3) := by decide +kernel
theorem dX7_parting_55 : decode cX7_parting 55 = .ok (.iload_n 1, 1) := by decide +kernel
theorem dX7_parting_56 : decode cX7_parting 56 = .ok (.iconst (-1), 1) := by decide +kernel
theorem dX7_parting_57 : decode cX7_parting 57 = .ok (.if_icmp .eq 11, 3) := by decide +kernel
theorem dX7_parting_60 : decode cX7_parting 60 = .ok (.aload_n 0, 1) := by decide +kernel
theorem dX7_parting_61 : decode cX7_parting 61 = .ok (.getfield 252, 3) := by decide +kernel
theorem dX7_parting_64 : decode cX7_parting 64 = .ok (.iconst (-1), 1) := by decide +kernel
theorem dX7_parting_65 : decode cX7_parting 65 = .ok (.if_icmp .ne 10, 3) := by decide +kernel
theorem dX7_parting_68 : decode cX7_parting 68 = .ok (.aload_n 0, 1) := by decide +kernel
theorem dX7_parting_69 : decode cX7_parting 69 = .ok (.getfield 252, 3) := by decide +kernel
theorem dX7_parting_72 : decode cX7_parting 72 = .ok (.goto 9, 3) := by decide +kernel
theorem dX7_parting_75 : decode cX7_parting 75 = .ok (.aload_n 0, 1) := by decide +kernel
theorem dX7_parting_76 : decode cX7_parting 76 = .ok (.getfield 120, 3) := by decide +kernel
theorem dX7_parting_79 : decode cX7_parting 79 = .ok (.iload_n 1, 1) := by decide +kernel
theorem dX7_parting_80 : decode cX7_parting 80 = .ok (.iaload, 1) := by decide +kernel
theorem dX7_parting_81 : decode cX7_parting 81 = .ok (.ireturn, 1) := by decide +kernel
theorem dX7_shareAt_0 : decode cX7_shareAt 0 = .ok (.aload_n 0, 1) := by decide +kernel
theorem dX7_shareAt_1 : decode cX7_shareAt 1 = .ok (.getfield 26, 3) := by decide +kernel
theorem dX7_shareAt_4 : decode cX7_shareAt 4 = .ok (.iload_n 1, 1) := by decide +kernel
theorem dX7_shareAt_5 : decode cX7_shareAt 5 = .ok (.iaload, 1) := by decide +kernel
theorem dX7_shareAt_6 : decode cX7_shareAt 6 = .ok (.iload_n 2, 1) := by decide +kernel
theorem dX7_shareAt_7 : decode cX7_shareAt 7 = .ok (.idiv, 1) := by decide +kernel
theorem dX7_shareAt_8 : decode cX7_shareAt 8 = .ok (.istore 4, 2) := by decide +kernel
theorem dX7_shareAt_10 : decode cX7_shareAt 10 = .ok (.iload 4, 2) := by decide +kernel
theorem dX7_shareAt_12 : decode cX7_shareAt 12 = .ok (.aload_n 0, 1) := by decide +kernel
theorem dX7_shareAt_13 : decode cX7_shareAt 13 = .ok (.getfield 41, 3) := by decide +kernel
theorem dX7_shareAt_16 : decode cX7_shareAt 16 = .ok (.iload_n 3, 1) := by decide +kernel
theorem dX7_shareAt_17 : decode cX7_shareAt 17 = .ok (.iaload, 1) := by decide +kernel
theorem dX7_shareAt_18 : decode cX7_shareAt 18 = .ok (.if_icmp .le 12, 3) := by decide +kernel
theorem dX7_shareAt_21 : decode cX7_shareAt 21 = .ok (.aload_n 0, 1) := by decide +kernel
theorem dX7_shareAt_22 : decode cX7_shareAt 22 = .ok (.getfield 41, 3) := by decide +kernel
theorem dX7_shareAt_25 : decode cX7_shareAt 25 = .ok (.iload_n 3, 1) := by decide +kernel
theorem dX7_shareAt_26 : decode cX7_shareAt 26 = .ok (.iaload, 1) := by decide +kernel
theorem dX7_shareAt_27 : decode cX7_shareAt 27 = .ok (.goto 5, 3) := by decide +kernel
theorem dX7_shareAt_30 : decode cX7_shareAt 30 = .ok (.iload 4, 2) := by decide +kernel
theorem dX7_shareAt_32 : decode cX7_shareAt 32 = .ok (.ireturn, 1) := by decide +kernel
theorem dX7_doesRound_0 : decode cX7_doesRound 0 = .ok (.iconst 0, 1) := by decide +kernel
theorem dX7_doesRound_1 : decode cX7_doesRound 1 = .ok (.istore_n 1, 1) := by decide +kernel
theorem dX7_doesRound_2 : decode cX7_doesRound 2 = .ok (.iconst 0, 1) := by decide +kernel
theorem dX7_doesRound_3 : decode cX7_doesRound 3 = .ok (.istore_n 2, 1) := by decide +kernel
theorem dX7_doesRound_4 : decode cX7_doesRound 4 = .ok (.iload_n 2, 1) := by decide +kernel
theorem dX7_doesRound_5 : decode cX7_doesRound 5 = .ok (.aload_n 0, 1) := by decide +kernel
theorem dX7_doesRound_6 : decode cX7_doesRound 6 = .ok (.getfield 245, 3) := by decide +kernel
theorem dX7_doesRound_9 : decode cX7_doesRound 9 = .ok (.if_icmp .ge 169, 3) := by decide +kernel
theorem dX7_doesRound_12 : decode cX7_doesRound 12 = .ok (.aload_n 0, 1) := by decide +kernel
theorem dX7_doesRound_13 : decode cX7_doesRound 13 = .ok (.getfield 114, 3) := by decide +kernel
theorem dX7_doesRound_16 : decode cX7_doesRound 16 = .ok (.iload_n 2, 1) := by decide +kernel
theorem dX7_doesRound_17 : decode cX7_doesRound 17 = .ok (.iaload, 1) := by decide +kernel
theorem dX7_doesRound_18 : decode cX7_doesRound 18 = .ok (.istore_n 3, 1) := by decide +kernel
theorem dX7_doesRound_19 : decode cX7_doesRound 19 = .ok (.aload_n 0, 1) := by decide +kernel
theorem dX7_doesRound_20 : decode cX7_doesRound 20 = .ok (.getfield 117, 3) := by decide +kernel
theorem dX7_doesRound_23 : decode cX7_doesRound 23 = .ok (.iload_n 2, 1) := by decide +kernel
theorem dX7_doesRound_24 : decode cX7_doesRound 24 = .ok (.iaload, 1) := by decide +kernel
theorem dX7_doesRound_25 : decode cX7_doesRound 25 = .ok (.istore 4, 2) := by decide +kernel
theorem dX7_doesRound_27 : decode cX7_doesRound 27 = .ok (.aload_n 0, 1) := by decide +kernel
theorem dX7_doesRound_28 : decode cX7_doesRound 28 = .ok (.iload 4, 2) := by decide +kernel
theorem dX7_doesRound_30 : decode cX7_doesRound 30 = .ok (.aload_n 0, 1) := by decide +kernel
theorem dX7_doesRound_31 : decode cX7_doesRound 31 = .ok (.getfield 123, 3) := by decide +kernel
theorem dX7_doesRound_34 : decode cX7_doesRound 34 = .ok (.iload 4, 2) := by decide +kernel
theorem dX7_doesRound_36 : decode cX7_doesRound 36 = .ok (.iaload, 1) := by decide +kernel
theorem dX7_doesRound_37 : decode cX7_doesRound 37 = .ok (.iload_n 3, 1) := by decide +kernel
theorem dX7_doesRound_38 : decode cX7_doesRound 38 = .ok (.invokevirtual 258, 3) := by decide +kernel
theorem dX7_doesRound_41 : decode cX7_doesRound 41 = .ok (.istore 5, 2) := by decide +kernel
theorem dX7_doesRound_43 : decode cX7_doesRound 43 = .ok (.iconst 0, 1) := by decide +kernel
theorem dX7_doesRound_44 : decode cX7_doesRound 44 = .ok (.istore 6, 2) := by decide +kernel
theorem dX7_doesRound_46 : decode cX7_doesRound 46 = .ok (.iload 6, 2) := by decide +kernel
theorem dX7_doesRound_48 : decode cX7_doesRound 48 = .ok (.aload_n 0, 1) := by decide +kernel
theorem dX7_doesRound_49 : decode cX7_doesRound 49 = .ok (.getfield 129, 3) := by decide +kernel
theorem dX7_doesRound_52 : decode cX7_doesRound 52 = .ok (.if_icmp .ge 70, 3) := by decide +kernel
theorem dX7_doesRound_55 : decode cX7_doesRound 55 = .ok (.aload_n 0, 1) := by decide +kernel
theorem dX7_doesRound_56 : decode cX7_doesRound 56 = .ok (.getfield 38, 3) := by decide +kernel
theorem dX7_doesRound_59 : decode cX7_doesRound 59 = .ok (.iload 6, 2) := by decide +kernel
theorem dX7_doesRound_61 : decode cX7_doesRound 61 = .ok (.iaload, 1) := by decide +kernel
theorem dX7_doesRound_62 : decode cX7_doesRound 62 = .ok (.iconst 1, 1) := by decide +kernel
theorem dX7_doesRound_63 : decode cX7_doesRound 63 = .ok (.if_icmp .eq 53, 3) := by decide +kernel
theorem dX7_doesRound_66 : decode cX7_doesRound 66 = .ok (.iload 6, 2) := by decide +kernel
theorem dX7_doesRound_68 : decode cX7_doesRound 68 = .ok (.aload_n 0, 1) := by decide +kernel
theorem dX7_doesRound_69 : decode cX7_doesRound 69 = .ok (.getfield 117, 3) := by decide +kernel
theorem dX7_doesRound_72 : decode cX7_doesRound 72 = .ok (.iload_n 2, 1) := by decide +kernel
theorem dX7_doesRound_73 : decode cX7_doesRound 73 = .ok (.iaload, 1) := by decide +kernel
theorem dX7_doesRound_74 : decode cX7_doesRound 74 = .ok (.if_icmp .ne 6, 3) := by decide +kernel
theorem dX7_doesRound_77 : decode cX7_doesRound 77 = .ok (.goto 39, 3) := by decide +kernel
theorem dX7_doesRound_80 : decode cX7_doesRound 80 = .ok (.aload_n 0, 1) := by decide +kernel
theorem dX7_doesRound_81 : decode cX7_doesRound 81 = .ok (.iload 6, 2) := by decide +kernel
theorem dX7_doesRound_83 : decode cX7_doesRound 83 = .ok (.aload_n 0, 1) := by decide +kernel
theorem dX7_doesRound_84 : decode cX7_doesRound 84 = .ok (.getfield 123, 3) := by decide +kernel
theorem dX7_doesRound_87 : decode cX7_doesRound 87 = .ok (.iload 6, 2) := by decide +kernel
theorem dX7_doesRound_89 : decode cX7_doesRound 89 = .ok (.iaload, 1) := by decide +kernel
theorem dX7_doesRound_90 : decode cX7_doesRound 90 = .ok (.iconst 1, 1) := by decide +kernel
theorem dX7_doesRound_91 : decode cX7_doesRound 91 = .ok (.iadd, 1) := by decide +kernel
theorem dX7_doesRound_92 : decode cX7_doesRound 92 = .ok (.iload_n 3, 1) := by decide +kernel
theorem dX7_doesRound_93 : decode cX7_doesRound 93 = .ok (.invokevirtual 258, 3) := by decide +kernel
theorem dX7_doesRound_96 : decode cX7_doesRound 96 = .ok (.istore 7, 2) := by decide +kernel
theorem dX7_doesRound_98 : decode cX7_doesRound 98 = .ok (.iload 7, 2) := by decide +kernel
theorem dX7_doesRound_100 : decode cX7_doesRound 100 = .ok (.iload 5, 2) := by decide +kernel
theorem dX7_doesRound_102 : decode cX7_doesRound 102 = .ok (.if_icmp .gt 6, 3) := by decide +kernel
theorem dX7_doesRound_105 : decode cX7_doesRound 105 = .ok (.goto 11, 3) := by decide +kernel
theorem dX7_doesRound_108 : decode cX7_doesRound 108 = .ok (.iload 6, 2) := by decide +kernel
theorem dX7_doesRound_110 : decode cX7_doesRound 110 = .ok (.istore 4, 2) := by decide +kernel
theorem dX7_doesRound_112 : decode cX7_doesRound 112 = .ok (.iload 7, 2) := by decide +kernel
theorem dX7_doesRound_114 : decode cX7_doesRound 114 = .ok (.istore 5, 2) := by decide +kernel
theorem dX7_doesRound_116 : decode cX7_doesRound 116 = .ok (.iinc 6 1, 3) := by decide +kernel
theorem dX7_doesRound_119 : decode cX7_doesRound 119 = .ok (.goto (-73), 3) := by decide +kernel
theorem dX7_doesRound_122 : decode cX7_doesRound 122 = .ok (.iload 4, 2) := by decide +kernel
theorem dX7_doesRound_124 : decode cX7_doesRound 124 = .ok (.aload_n 0, 1) := by decide +kernel
theorem dX7_doesRound_125 : decode cX7_doesRound 125 = .ok (.getfield 117, 3) := by decide +kernel
theorem dX7_doesRound_128 : decode cX7_doesRound 128 = .ok (.iload_n 2, 1) := by decide +kernel
theorem dX7_doesRound_129 : decode cX7_doesRound 129 = .ok (.iaload, 1) := by decide +kernel
theorem dX7_doesRound_130 : decode cX7_doesRound 130 = .ok (.if_icmp .ne 6, 3) := by decide +kernel
theorem dX7_doesRound_133 : decode cX7_doesRound 133 = .ok (.goto 39, 3) := by decide +kernel
theorem dX7_doesRound_136 : decode cX7_doesRound 136 = .ok (.aload_n 0, 1) := by decide +kernel
theorem dX7_doesRound_137 : decode cX7_doesRound 137 = .ok (.getfield 123, 3) := by decide +kernel
theorem dX7_doesRound_140 : decode cX7_doesRound 140 = .ok (.aload_n 0, 1) := by decide +kernel
theorem dX7_doesRound_141 : decode cX7_doesRound 141 = .ok (.getfield 117, 3) := by decide +kernel
theorem dX7_doesRound_144 : decode cX7_doesRound 144 = .ok (.iload_n 2, 1) := by decide +kernel
theorem dX7_doesRound_145 : decode cX7_doesRound 145 = .ok (.iaload, 1) := by decide +kernel
theorem dX7_doesRound_146 : decode cX7_doesRound 146 = .ok (.dup2, 1) := by decide +kernel
theorem dX7_doesRound_147 : decode cX7_doesRound 147 = .ok (.iaload, 1) := by decide +kernel
theorem dX7_doesRound_148 : decode cX7_doesRound 148 = .ok (.iconst 1, 1) := by decide +kernel
theorem dX7_doesRound_149 : decode cX7_doesRound 149 = .ok (.isub, 1) := by decide +kernel
theorem dX7_doesRound_150 : decode cX7_doesRound 150 = .ok (.iastore, 1) := by decide +kernel
theorem dX7_doesRound_151 : decode cX7_doesRound 151 = .ok (.aload_n 0, 1) := by decide +kernel
theorem dX7_doesRound_152 : decode cX7_doesRound 152 = .ok (.getfield 123, 3) := by decide +kernel
theorem dX7_doesRound_155 : decode cX7_doesRound 155 = .ok (.iload 4, 2) := by decide +kernel
theorem dX7_doesRound_157 : decode cX7_doesRound 157 = .ok (.dup2, 1) := by decide +kernel
theorem dX7_doesRound_158 : decode cX7_doesRound 158 = .ok (.iaload, 1) := by decide +kernel
theorem dX7_doesRound_159 : decode cX7_doesRound 159 = .ok (.iconst 1, 1) := by decide +kernel
theorem dX7_doesRound_160 : decode cX7_doesRound 160 = .ok (.iadd, 1) := by decide +kernel
theorem dX7_doesRound_161 : decode cX7_doesRound 161 = .ok (.iastore, 1) := by decide +kernel
theorem dX7_doesRound_162 : decode cX7_doesRound 162 = .ok (.aload_n 0, 1) := by decide +kernel
theorem dX7_doesRound_163 : decode cX7_doesRound 163 = .ok (.getfield 117, 3) := by decide +kernel
theorem dX7_doesRound_166 : decode cX7_doesRound 166 = .ok (.iload_n 2, 1) := by decide +kernel
theorem dX7_doesRound_167 : decode cX7_doesRound 167 = .ok (.iload 4, 2) := by decide +kernel
theorem dX7_doesRound_169 : decode cX7_doesRound 169 = .ok (.iastore, 1) := by decide +kernel
theorem dX7_doesRound_170 : decode cX7_doesRound 170 = .ok (.iconst 1, 1) := by decide +kernel
theorem dX7_doesRound_171 : decode cX7_doesRound 171 = .ok (.istore_n 1, 1) := by decide +kernel
theorem dX7_doesRound_172 : decode cX7_doesRound 172 = .ok (.iinc 2 1, 3) := by decide +kernel
theorem dX7_doesRound_175 : decode cX7_doesRound 175 = .ok (.goto (-171), 3) := by decide +kernel
theorem dX7_doesRound_178 : decode cX7_doesRound 178 = .ok (.iload_n 1, 1) := by decide +kernel
theorem dX7_doesRound_179 : decode cX7_doesRound 179 = .ok (.ireturn, 1) := by decide +kernel
theorem dX7_restsAfter_0 : decode cX7_restsAfter 0 = .ok (.iconst (-1), 1) := by decide +kernel
theorem dX7_restsAfter_1 : decode cX7_restsAfter 1 = .ok (.istore_n 1, 1) := by decide +kernel
theorem dX7_restsAfter_2 : decode cX7_restsAfter 2 = .ok (.aload_n 0, 1) := by decide +kernel
theorem dX7_restsAfter_3 : decode cX7_restsAfter 3 = .ok (.getfield 129, 3) := by decide +kernel
theorem dX7_restsAfter_6 : decode cX7_restsAfter 6 = .ok (.iconst 1, 1) := by decide +kernel
theorem dX7_restsAfter_7 : decode cX7_restsAfter 7 = .ok (.isub, 1) := by decide +kernel
theorem dX7_restsAfter_8 : decode cX7_restsAfter 8 = .ok (.istore_n 2, 1) := by decide +kernel
theorem dX7_restsAfter_9 : decode cX7_restsAfter 9 = .ok (.iload_n 2, 1) := by decide +kernel
theorem dX7_restsAfter_10 : decode cX7_restsAfter 10 = .ok (.ifCond .lt 20, 3) := by decide +kernel
theorem dX7_restsAfter_13 : decode cX7_restsAfter 13 = .ok (.aload_n 0, 1) := by decide +kernel
theorem dX7_restsAfter_14 : decode cX7_restsAfter 14 = .ok (.getfield 38, 3) := by decide +kernel
theorem dX7_restsAfter_17 : decode cX7_restsAfter 17 = .ok (.iload_n 2, 1) := by decide +kernel
theorem dX7_restsAfter_18 : decode cX7_restsAfter 18 = .ok (.iaload, 1) := by decide +kernel
theorem dX7_restsAfter_19 : decode cX7_restsAfter 19 = .ok (.ifCond .ne 5, 3) := by decide +kernel
theorem dX7_restsAfter_22 : decode cX7_restsAfter 22 = .ok (.iload_n 2, 1) := by decide +kernel
theorem dX7_restsAfter_23 : decode cX7_restsAfter 23 = .ok (.istore_n 1, 1) := by decide +kernel
theorem dX7_restsAfter_24 : decode cX7_restsAfter 24 = .ok (.iinc 2 (-1), 3) := by decide +kernel
theorem dX7_restsAfter_27 : decode cX7_restsAfter 27 = .ok (.goto (-18), 3) := by decide +kernel
theorem dX7_restsAfter_30 : decode cX7_restsAfter 30 = .ok (.iload_n 1, 1) := by decide +kernel
theorem dX7_restsAfter_31 : decode cX7_restsAfter 31 = .ok (.iconst (-1), 1) := by decide +kernel
theorem dX7_restsAfter_32 : decode cX7_restsAfter 32 = .ok (.if_icmp .ne 5, 3) := by decide +kernel
theorem dX7_restsAfter_35 : decode cX7_restsAfter 35 = .ok (.iconst (-1), 1) := by decide +kernel
theorem dX7_restsAfter_36 : decode cX7_restsAfter 36 = .ok (.ireturn, 1) := by decide +kernel
theorem dX7_restsAfter_37 : decode cX7_restsAfter 37 = .ok (.iconst 0, 1) := by decide +kernel
theorem dX7_restsAfter_38 : decode cX7_restsAfter 38 = .ok (.istore_n 2, 1) := by decide +kernel
theorem dX7_restsAfter_39 : decode cX7_restsAfter 39 = .ok (.iload_n 2, 1) := by decide +kernel
theorem dX7_restsAfter_40 : decode cX7_restsAfter 40 = .ok (.bipush 6, 2) := by decide +kernel
theorem dX7_restsAfter_42 : decode cX7_restsAfter 42 = .ok (.if_icmp .ge 28, 3) := by decide +kernel
theorem dX7_restsAfter_45 : decode cX7_restsAfter 45 = .ok (.aload_n 0, 1) := by decide +kernel
theorem dX7_restsAfter_46 : decode cX7_restsAfter 46 = .ok (.getfield 123, 3) := by decide +kernel
theorem dX7_restsAfter_49 : decode cX7_restsAfter 49 = .ok (.iload_n 2, 1) := by decide +kernel
theorem dX7_restsAfter_50 : decode cX7_restsAfter 50 = .ok (.iload_n 2, 1) := by decide +kernel
theorem dX7_restsAfter_51 : decode cX7_restsAfter 51 = .ok (.iload_n 1, 1) := by decide +kernel
theorem dX7_restsAfter_52 : decode cX7_restsAfter 52 = .ok (.if_icmp .ne 10, 3) := by decide +kernel
theorem dX7_restsAfter_55 : decode cX7_restsAfter 55 = .ok (.aload_n 0, 1) := by decide +kernel
theorem dX7_restsAfter_56 : decode cX7_restsAfter 56 = .ok (.getfield 245, 3) := by decide +kernel
theorem dX7_restsAfter_59 : decode cX7_restsAfter 59 = .ok (.goto 4, 3) := by decide +kernel
theorem dX7_restsAfter_62 : decode cX7_restsAfter 62 = .ok (.iconst 0, 1) := by decide +kernel
theorem dX7_restsAfter_63 : decode cX7_restsAfter 63 = .ok (.iastore, 1) := by decide +kernel
theorem dX7_restsAfter_64 : decode cX7_restsAfter 64 = .ok (.iinc 2 1, 3) := by decide +kernel
theorem dX7_restsAfter_67 : decode cX7_restsAfter 67 = .ok (.goto (-28), 3) := by decide +kernel
theorem dX7_restsAfter_70 : decode cX7_restsAfter 70 = .ok (.iconst 0, 1) := by decide +kernel
theorem dX7_restsAfter_71 : decode cX7_restsAfter 71 = .ok (.istore_n 2, 1) := by decide +kernel
theorem dX7_restsAfter_72 : decode cX7_restsAfter 72 = .ok (.iload_n 2, 1) := by decide +kernel
theorem dX7_restsAfter_73 : decode cX7_restsAfter 73 = .ok (.aload_n 0, 1) := by decide +kernel
theorem dX7_restsAfter_74 : decode cX7_restsAfter 74 = .ok (.getfield 245, 3) := by decide +kernel
theorem dX7_restsAfter_77 : decode cX7_restsAfter 77 = .ok (.if_icmp .ge 16, 3) := by decide +kernel
theorem dX7_restsAfter_80 : decode cX7_restsAfter 80 = .ok (.aload_n 0, 1) := by decide +kernel
theorem dX7_restsAfter_81 : decode cX7_restsAfter 81 = .ok (.getfield 117, 3) := by decide +kernel
theorem dX7_restsAfter_84 : decode cX7_restsAfter 84 = .ok (.iload_n 2, 1) := by decide +kernel
theorem dX7_restsAfter_85 : decode cX7_restsAfter 85 = .ok (.iload_n 1, 1) := by decide +kernel
theorem dX7_restsAfter_86 : decode cX7_restsAfter 86 = .ok (.iastore, 1) := by decide +kernel
theorem dX7_restsAfter_87 : decode cX7_restsAfter 87 = .ok (.iinc 2 1, 3) := by decide +kernel
theorem dX7_restsAfter_90 : decode cX7_restsAfter 90 = .ok (.goto (-18), 3) := by decide +kernel
theorem dX7_restsAfter_93 : decode cX7_restsAfter 93 = .ok (.iconst 0, 1) := by decide +kernel
theorem dX7_restsAfter_94 : decode cX7_restsAfter 94 = .ok (.istore_n 2, 1) := by decide +kernel
theorem dX7_restsAfter_95 : decode cX7_restsAfter 95 = .ok (.iload_n 2, 1) := by decide +kernel
theorem dX7_restsAfter_96 : decode cX7_restsAfter 96 = .ok (.bipush 20, 2) := by decide +kernel
theorem dX7_restsAfter_98 : decode cX7_restsAfter 98 = .ok (.if_icmp .gt 18, 3) := by decide +kernel
theorem dX7_restsAfter_101 : decode cX7_restsAfter 101 = .ok (.aload_n 0, 1) := by decide +kernel
theorem dX7_restsAfter_102 : decode cX7_restsAfter 102 = .ok (.invokevirtual 262, 3) := by decide +kernel
theorem dX7_restsAfter_105 : decode cX7_restsAfter 105 = .ok (.ifCond .ne 5, 3) := by decide +kernel
theorem dX7_restsAfter_108 : decode cX7_restsAfter 108 = .ok (.iload_n 2, 1) := by decide +kernel
theorem dX7_restsAfter_109 : decode cX7_restsAfter 109 = .ok (.ireturn, 1) := by decide +kernel
theorem dX7_restsAfter_110 : decode cX7_restsAfter 110 = .ok (.iinc 2 1, 3) := by decide +kernel
theorem dX7_restsAfter_113 : decode cX7_restsAfter 113 = .ok (.goto (-18), 3) := by decide +kernel
theorem dX7_restsAfter_116 : decode cX7_restsAfter 116 = .ok (.iconst (-1), 1) := by decide +kernel
theorem dX7_restsAfter_117 : decode cX7_restsAfter 117 = .ok (.ireturn, 1) := by decide +kernel
theorem dX7_rests_0 : decode cX7_rests 0 = .ok (.iload_n 1, 1) := by decide +kernel
theorem dX7_rests_1 : decode cX7_rests 1 = .ok (.iconst (-1), 1) := by decide +kernel
theorem dX7_rests_2 : decode cX7_rests 2 = .ok (.if_icmp .eq 27, 3) := by decide +kernel
theorem dX7_rests_5 : decode cX7_rests 5 = .ok (.aload_n 0, 1) := by decide +kernel
theorem dX7_rests_6 : decode cX7_rests 6 = .ok (.iload_n 1, 1) := by decide +kernel
theorem dX7_rests_7 : decode cX7_rests 7 = .ok (.invokevirtual 161, 3) := by decide +kernel
theorem dX7_rests_10 : decode cX7_rests 10 = .ok (.ifCond .eq 13, 3) := by decide +kernel
theorem dX7_rests_13 : decode cX7_rests 13 = .ok (.aload_n 0, 1) := by decide +kernel
theorem dX7_rests_14 : decode cX7_rests 14 = .ok (.getfield 53, 3) := by decide +kernel
theorem dX7_rests_17 : decode cX7_rests 17 = .ok (.iload_n 1, 1) := by decide +kernel
theorem dX7_rests_18 : decode cX7_rests 18 = .ok (.iaload, 1) := by decide +kernel
theorem dX7_rests_19 : decode cX7_rests 19 = .ok (.iconst 1, 1) := by decide +kernel
theorem dX7_rests_20 : decode cX7_rests 20 = .ok (.if_icmp .ne 9, 3) := by decide +kernel
theorem dX7_rests_23 : decode cX7_rests 23 = .ok (.aload_n 0, 1) := by decide +kernel
theorem dX7_rests_24 : decode cX7_rests 24 = .ok (.iconst (-1), 1) := by decide +kernel
theorem dX7_rests_25 : decode cX7_rests 25 = .ok (.invokevirtual 164, 3) := by decide +kernel
theorem dX7_rests_28 : decode cX7_rests 28 = .ok (.ireturn, 1) := by decide +kernel
theorem dX7_rests_29 : decode cX7_rests 29 = .ok (.aload_n 0, 1) := by decide +kernel
theorem dX7_rests_30 : decode cX7_rests 30 = .ok (.invokevirtual 255, 3) := by decide +kernel
theorem dX7_rests_33 : decode cX7_rests 33 = .ok (.aload_n 0, 1) := by decide +kernel
theorem dX7_rests_34 : decode cX7_rests 34 = .ok (.invokevirtual 265, 3) := by decide +kernel
theorem dX7_rests_37 : decode cX7_rests 37 = .ok (.istore_n 2, 1) := by decide +kernel
theorem dX7_rests_38 : decode cX7_rests 38 = .ok (.iconst 0, 1) := by decide +kernel
theorem dX7_rests_39 : decode cX7_rests 39 = .ok (.istore_n 3, 1) := by decide +kernel
theorem dX7_rests_40 : decode cX7_rests 40 = .ok (.iload_n 1, 1) := by decide +kernel
theorem dX7_rests_41 : decode cX7_rests 41 = .ok (.iconst (-1), 1) := by decide +kernel
theorem dX7_rests_42 : decode cX7_rests 42 = .ok (.if_icmp .eq 8, 3) := by decide +kernel
theorem dX7_rests_45 : decode cX7_rests 45 = .ok (.iload_n 2, 1) := by decide +kernel
theorem dX7_rests_46 : decode cX7_rests 46 = .ok (.iconst (-1), 1) := by decide +kernel
theorem dX7_rests_47 : decode cX7_rests 47 = .ok (.if_icmp .ne 5, 3) := by decide +kernel
theorem dX7_rests_50 : decode cX7_rests 50 = .ok (.iload_n 2, 1) := by decide +kernel
theorem dX7_rests_51 : decode cX7_rests 51 = .ok (.ireturn, 1) := by decide +kernel
theorem dX7_rests_52 : decode cX7_rests 52 = .ok (.aload_n 0, 1) := by decide +kernel
theorem dX7_rests_53 : decode cX7_rests 53 = .ok (.getfield 114, 3) := by decide +kernel
theorem dX7_rests_56 : decode cX7_rests 56 = .ok (.iload_n 3, 1) := by decide +kernel
theorem dX7_rests_57 : decode cX7_rests 57 = .ok (.iaload, 1) := by decide +kernel
theorem dX7_rests_58 : decode cX7_rests 58 = .ok (.iload_n 1, 1) := by decide +kernel
theorem dX7_rests_59 : decode cX7_rests 59 = .ok (.if_icmp .eq 9, 3) := by decide +kernel
theorem dX7_rests_62 : decode cX7_rests 62 = .ok (.iinc 3 1, 3) := by decide +kernel
theorem dX7_rests_65 : decode cX7_rests 65 = .ok (.goto (-13), 3) := by decide +kernel
theorem dX7_rests_68 : decode cX7_rests 68 = .ok (.aload_n 0, 1) := by decide +kernel
theorem dX7_rests_69 : decode cX7_rests 69 = .ok (.getfield 117, 3) := by decide +kernel
theorem dX7_rests_72 : decode cX7_rests 72 = .ok (.iload_n 3, 1) := by decide +kernel
theorem dX7_rests_73 : decode cX7_rests 73 = .ok (.iaload, 1) := by decide +kernel
theorem dX7_rests_74 : decode cX7_rests 74 = .ok (.ireturn, 1) := by decide +kernel
theorem dX7_shun_0 : decode cX7_shun 0 = .ok (.aload_n 0, 1) := by decide +kernel
theorem dX7_shun_1 : decode cX7_shun 1 = .ok (.iload_n 1, 1) := by decide +kernel
theorem dX7_shun_2 : decode cX7_shun 2 = .ok (.invokevirtual 143, 3) := by decide +kernel
theorem dX7_shun_5 : decode cX7_shun 5 = .ok (.ifCond .eq 13, 3) := by decide +kernel
theorem dX7_shun_8 : decode cX7_shun 8 = .ok (.aload_n 0, 1) := by decide +kernel
theorem dX7_shun_9 : decode cX7_shun 9 = .ok (.getfield 38, 3) := by decide +kernel
theorem dX7_shun_12 : decode cX7_shun 12 = .ok (.iload_n 1, 1) := by decide +kernel
theorem dX7_shun_13 : decode cX7_shun 13 = .ok (.iaload, 1) := by decide +kernel
theorem dX7_shun_14 : decode cX7_shun 14 = .ok (.iconst 1, 1) := by decide +kernel
theorem dX7_shun_15 : decode cX7_shun 15 = .ok (.if_icmp .ne 9, 3) := by decide +kernel
theorem dX7_shun_18 : decode cX7_shun 18 = .ok (.aload_n 0, 1) := by decide +kernel
theorem dX7_shun_19 : decode cX7_shun 19 = .ok (.iconst (-1), 1) := by decide +kernel
theorem dX7_shun_20 : decode cX7_shun 20 = .ok (.invokevirtual 164, 3) := by decide +kernel
theorem dX7_shun_23 : decode cX7_shun 23 = .ok (.ireturn, 1) := by decide +kernel
theorem dX7_shun_24 : decode cX7_shun 24 = .ok (.iload_n 2, 1) := by decide +kernel
theorem dX7_shun_25 : decode cX7_shun 25 = .ok (.ifCond .lt 8, 3) := by decide +kernel
theorem dX7_shun_28 : decode cX7_shun 28 = .ok (.iload_n 2, 1) := by decide +kernel
theorem dX7_shun_29 : decode cX7_shun 29 = .ok (.iconst 1, 1) := by decide +kernel
theorem dX7_shun_30 : decode cX7_shun 30 = .ok (.if_icmp .le 10, 3) := by decide +kernel
theorem dX7_shun_33 : decode cX7_shun 33 = .ok (.aload_n 0, 1) := by decide +kernel
theorem dX7_shun_34 : decode cX7_shun 34 = .ok (.bipush (-5), 2) := by decide +kernel
theorem dX7_shun_36 : decode cX7_shun 36 = .ok (.invokevirtual 164, 3) := by decide +kernel
theorem dX7_shun_39 : decode cX7_shun 39 = .ok (.ireturn, 1) := by decide +kernel
theorem dX7_shun_40 : decode cX7_shun 40 = .ok (.aload_n 0, 1) := by decide +kernel
theorem dX7_shun_41 : decode cX7_shun 41 = .ok (.getfield 29, 3) := by decide +kernel
theorem dX7_shun_44 : decode cX7_shun 44 = .ok (.iload_n 1, 1) := by decide +kernel
theorem dX7_shun_45 : decode cX7_shun 45 = .ok (.iaload, 1) := by decide +kernel
theorem dX7_shun_46 : decode cX7_shun 46 = .ok (.istore_n 3, 1) := by decide +kernel
theorem dX7_shun_47 : decode cX7_shun 47 = .ok (.iconst (-1), 1) := by decide +kernel
theorem dX7_shun_48 : decode cX7_shun 48 = .ok (.istore 4, 2) := by decide +kernel
theorem dX7_shun_50 : decode cX7_shun 50 = .ok (.iconst (-1), 1) := by decide +kernel
theorem dX7_shun_51 : decode cX7_shun 51 = .ok (.istore 5, 2) := by decide +kernel
theorem dX7_shun_53 : decode cX7_shun 53 = .ok (.iconst 0, 1) := by decide +kernel
theorem dX7_shun_54 : decode cX7_shun 54 = .ok (.istore 6, 2) := by decide +kernel
theorem dX7_shun_56 : decode cX7_shun 56 = .ok (.iload 6, 2) := by decide +kernel
theorem dX7_shun_58 : decode cX7_shun 58 = .ok (.bipush 20, 2) := by decide +kernel
theorem dX7_shun_60 : decode cX7_shun 60 = .ok (.if_icmp .gt 47, 3) := by decide +kernel
theorem dX7_shun_63 : decode cX7_shun 63 = .ok (.aload_n 0, 1) := by decide +kernel
theorem dX7_shun_64 : decode cX7_shun 64 = .ok (.getfield 29, 3) := by decide +kernel
theorem dX7_shun_67 : decode cX7_shun 67 = .ok (.iload_n 1, 1) := by decide +kernel
theorem dX7_shun_68 : decode cX7_shun 68 = .ok (.iload 6, 2) := by decide +kernel
theorem dX7_shun_70 : decode cX7_shun 70 = .ok (.iastore, 1) := by decide +kernel
theorem dX7_shun_71 : decode cX7_shun 71 = .ok (.aload_n 0, 1) := by decide +kernel
theorem dX7_shun_72 : decode cX7_shun 72 = .ok (.invokevirtual 236, 3) := by decide +kernel
theorem dX7_shun_75 : decode cX7_shun 75 = .ok (.aload_n 0, 1) := by decide +kernel
theorem dX7_shun_76 : decode cX7_shun 76 = .ok (.getfield 102, 3) := by decide +kernel
theorem dX7_shun_79 : decode cX7_shun 79 = .ok (.iload_n 1, 1) := by decide +kernel
theorem dX7_shun_80 : decode cX7_shun 80 = .ok (.iaload, 1) := by decide +kernel
theorem dX7_shun_81 : decode cX7_shun 81 = .ok (.ifCond .ne 10, 3) := by decide +kernel
theorem dX7_shun_84 : decode cX7_shun 84 = .ok (.iload 6, 2) := by decide +kernel
theorem dX7_shun_86 : decode cX7_shun 86 = .ok (.istore 4, 2) := by decide +kernel
theorem dX7_shun_88 : decode cX7_shun 88 = .ok (.goto 13, 3) := by decide +kernel
theorem dX7_shun_91 : decode cX7_shun 91 = .ok (.iload 5, 2) := by decide +kernel
theorem dX7_shun_93 : decode cX7_shun 93 = .ok (.iconst (-1), 1) := by decide +kernel
theorem dX7_shun_94 : decode cX7_shun 94 = .ok (.if_icmp .ne 7, 3) := by decide +kernel
theorem dX7_shun_97 : decode cX7_shun 97 = .ok (.iload 6, 2) := by decide +kernel
theorem dX7_shun_99 : decode cX7_shun 99 = .ok (.istore 5, 2) := by decide +kernel
theorem dX7_shun_101 : decode cX7_shun 101 = .ok (.iinc 6 1, 3) := by decide +kernel
theorem dX7_shun_104 : decode cX7_shun 104 = .ok (.goto (-48), 3) := by decide +kernel
theorem dX7_shun_107 : decode cX7_shun 107 = .ok (.aload_n 0, 1) := by decide +kernel
theorem dX7_shun_108 : decode cX7_shun 108 = .ok (.getfield 29, 3) := by decide +kernel
theorem dX7_shun_111 : decode cX7_shun 111 = .ok (.iload_n 1, 1) := by decide +kernel
theorem dX7_shun_112 : decode cX7_shun 112 = .ok (.iload_n 3, 1) := by decide +kernel
theorem dX7_shun_113 : decode cX7_shun 113 = .ok (.iastore, 1) := by decide +kernel
theorem dX7_shun_114 : decode cX7_shun 114 = .ok (.iload_n 2, 1) := by decide +kernel
theorem dX7_shun_115 : decode cX7_shun 115 = .ok (.ifCond .ne 8, 3) := by decide +kernel
theorem dX7_shun_118 : decode cX7_shun 118 = .ok (.iload 4, 2) := by decide +kernel
theorem dX7_shun_120 : decode cX7_shun 120 = .ok (.goto 5, 3) := by decide +kernel
theorem dX7_shun_123 : decode cX7_shun 123 = .ok (.iload 5, 2) := by decide +kernel
theorem dX7_shun_125 : decode cX7_shun 125 = .ok (.ireturn, 1) := by decide +kernel
theorem dX7_rules_0 : decode cX7_rules 0 = .ok (.aload_n 0, 1) := by decide +kernel
theorem dX7_rules_1 : decode cX7_rules 1 = .ok (.iload_n 1, 1) := by decide +kernel
theorem dX7_rules_2 : decode cX7_rules 2 = .ok (.invokevirtual 161, 3) := by decide +kernel
theorem dX7_rules_5 : decode cX7_rules 5 = .ok (.ifCond .eq 11, 3) := by decide +kernel
theorem dX7_rules_8 : decode cX7_rules 8 = .ok (.aload_n 0, 1) := by decide +kernel
theorem dX7_rules_9 : decode cX7_rules 9 = .ok (.iload_n 2, 1) := by decide +kernel
theorem dX7_rules_10 : decode cX7_rules 10 = .ok (.invokevirtual 143, 3) := by decide +kernel
theorem dX7_rules_13 : decode cX7_rules 13 = .ok (.ifCond .ne 9, 3) := by decide +kernel
theorem dX7_rules_16 : decode cX7_rules 16 = .ok (.aload_n 0, 1) := by decide +kernel
theorem dX7_rules_17 : decode cX7_rules 17 = .ok (.iconst (-1), 1) := by decide +kernel
theorem dX7_rules_18 : decode cX7_rules 18 = .ok (.invokevirtual 139, 3) := by decide +kernel
theorem dX7_rules_21 : decode cX7_rules 21 = .ok (.ireturn, 1) := by decide +kernel
theorem dX7_rules_22 : decode cX7_rules 22 = .ok (.aload_n 0, 1) := by decide +kernel
theorem dX7_rules_23 : decode cX7_rules 23 = .ok (.getfield 53, 3) := by decide +kernel
theorem dX7_rules_26 : decode cX7_rules 26 = .ok (.iload_n 1, 1) := by decide +kernel
theorem dX7_rules_27 : decode cX7_rules 27 = .ok (.iaload, 1) := by decide +kernel
theorem dX7_rules_28 : decode cX7_rules 28 = .ok (.iconst 1, 1) := by decide +kernel
theorem dX7_rules_29 : decode cX7_rules 29 = .ok (.if_icmp .ne 10, 3) := by decide +kernel
theorem dX7_rules_32 : decode cX7_rules 32 = .ok (.aload_n 0, 1) := by decide +kernel
theorem dX7_rules_33 : decode cX7_rules 33 = .ok (.bipush (-6), 2) := by decide +kernel
theorem dX7_rules_35 : decode cX7_rules 35 = .ok (.invokevirtual 139, 3) := by decide +kernel
theorem dX7_rules_38 : decode cX7_rules 38 = .ok (.ireturn, 1) := by decide +kernel
theorem dX7_rules_39 : decode cX7_rules 39 = .ok (.aload_n 0, 1) := by decide +kernel
theorem dX7_rules_40 : decode cX7_rules 40 = .ok (.getfield 44, 3) := by decide +kernel
theorem dX7_rules_43 : decode cX7_rules 43 = .ok (.iload_n 1, 1) := by decide +kernel
theorem dX7_rules_44 : decode cX7_rules 44 = .ok (.iaload, 1) := by decide +kernel
theorem dX7_rules_45 : decode cX7_rules 45 = .ok (.istore_n 3, 1) := by decide +kernel
theorem dX7_rules_46 : decode cX7_rules 46 = .ok (.iconst 0, 1) := by decide +kernel
theorem dX7_rules_47 : decode cX7_rules 47 = .ok (.istore 4, 2) := by decide +kernel
theorem dX7_rules_49 : decode cX7_rules 49 = .ok (.iconst 0, 1) := by decide +kernel
theorem dX7_rules_50 : decode cX7_rules 50 = .ok (.istore 5, 2) := by decide +kernel
theorem dX7_rules_52 : decode cX7_rules 52 = .ok (.iload 5, 2) := by decide +kernel
theorem dX7_rules_54 : decode cX7_rules 54 = .ok (.iconst 4, 1) := by decide +kernel
