/-! decode rows -/
theorem dX2_notePart_1 : decode cX2_notePart 1 = .ok (.iload_n 1, 1) := by decide +kernel
theorem dX2_notePart_2 : decode cX2_notePart 2 = .ok (.putfield 184, 3) := by decide +kernel
theorem dX2_notePart_5 : decode cX2_notePart 5 = .ok (.aload_n 0, 1) := by decide +kernel
theorem dX2_notePart_6 : decode cX2_notePart 6 = .ok (.getfield 19, 3) := by decide +kernel
theorem dX2_notePart_9 : decode cX2_notePart 9 = .ok (.astore_n 2, 1) := by decide +kernel
theorem dX2_notePart_10 : decode cX2_notePart 10 = .ok (.aload_n 2, 1) := by decide +kernel
theorem dX2_notePart_11 : decode cX2_notePart 11 = .ok (.arraylength, 1) := by decide +kernel
theorem dX2_notePart_12 : decode cX2_notePart 12 = .ok (.istore_n 3, 1) := by decide +kernel
theorem dX2_notePart_13 : decode cX2_notePart 13 = .ok (.iconst 0, 1) := by decide +kernel
theorem dX2_notePart_14 : decode cX2_notePart 14 = .ok (.istore 4, 2) := by decide +kernel
theorem dX2_notePart_16 : decode cX2_notePart 16 = .ok (.iload 4, 2) := by decide +kernel
theorem dX2_notePart_18 : decode cX2_notePart 18 = .ok (.iload_n 3, 1) := by decide +kernel
theorem dX2_notePart_19 : decode cX2_notePart 19 = .ok (.if_icmp .ge 25, 3) := by decide +kernel
theorem dX2_notePart_22 : decode cX2_notePart 22 = .ok (.aload_n 2, 1) := by decide +kernel
theorem dX2_notePart_23 : decode cX2_notePart 23 = .ok (.iload 4, 2) := by decide +kernel
theorem dX2_notePart_25 : decode cX2_notePart 25 = .ok (.aaload, 1) := by decide +kernel
theorem dX2_notePart_26 : decode cX2_notePart 26 = .ok (.astore 5, 2) := by decide +kernel
theorem dX2_notePart_28 : decode cX2_notePart 28 = .ok (.aload 5, 2) := by decide +kernel
theorem dX2_notePart_30 : decode cX2_notePart 30 = .ok (.aload 5, 2) := by decide +kernel
theorem dX2_notePart_32 : decode cX2_notePart 32 = .ok (.getfield 206, 3) := by decide +kernel
theorem dX2_notePart_35 : decode cX2_notePart 35 = .ok (.putfield 209, 3) := by decide +kernel
theorem dX2_notePart_38 : decode cX2_notePart 38 = .ok (.iinc 4 1, 3) := by decide +kernel
theorem dX2_notePart_41 : decode cX2_notePart 41 = .ok (.goto (-25), 3) := by decide +kernel
theorem dX2_notePart_44 : decode cX2_notePart 44 = .ok (.return_, 1) := by decide +kernel
theorem dX2_comeToRest_0 : decode cX2_comeToRest 0 = .ok (.aload_n 0, 1) := by decide +kernel
theorem dX2_comeToRest_1 : decode cX2_comeToRest 1 = .ok (.iconst 0, 1) := by decide +kernel
theorem dX2_comeToRest_2 : decode cX2_comeToRest 2 = .ok (.invokevirtual 112, 3) := by decide +kernel
theorem dX2_comeToRest_5 : decode cX2_comeToRest 5 = .ok (.astore_n 1, 1) := by decide +kernel
theorem dX2_comeToRest_6 : decode cX2_comeToRest 6 = .ok (.aload_n 1, 1) := by decide +kernel
theorem dX2_comeToRest_7 : decode cX2_comeToRest 7 = .ok (.ifnonnull 5, 3) := by decide +kernel
theorem dX2_comeToRest_10 : decode cX2_comeToRest 10 = .ok (.iconst (-1), 1) := by decide +kernel
theorem dX2_comeToRest_11 : decode cX2_comeToRest 11 = .ok (.ireturn, 1) := by decide +kernel
theorem dX2_comeToRest_12 : decode cX2_comeToRest 12 = .ok (.aload_n 0, 1) := by decide +kernel
theorem dX2_comeToRest_13 : decode cX2_comeToRest 13 = .ok (.getfield 11, 3) := by decide +kernel
theorem dX2_comeToRest_16 : decode cX2_comeToRest 16 = .ok (.astore_n 2, 1) := by decide +kernel
theorem dX2_comeToRest_17 : decode cX2_comeToRest 17 = .ok (.aload_n 2, 1) := by decide +kernel
theorem dX2_comeToRest_18 : decode cX2_comeToRest 18 = .ok (.arraylength, 1) := by decide +kernel
theorem dX2_comeToRest_19 : decode cX2_comeToRest 19 = .ok (.istore_n 3, 1) := by decide +kernel
theorem dX2_comeToRest_20 : decode cX2_comeToRest 20 = .ok (.iconst 0, 1) := by decide +kernel
theorem dX2_comeToRest_21 : decode cX2_comeToRest 21 = .ok (.istore 4, 2) := by decide +kernel
theorem dX2_comeToRest_23 : decode cX2_comeToRest 23 = .ok (.iload 4, 2) := by decide +kernel
theorem dX2_comeToRest_25 : decode cX2_comeToRest 25 = .ok (.iload_n 3, 1) := by decide +kernel
theorem dX2_comeToRest_26 : decode cX2_comeToRest 26 = .ok (.if_icmp .ge 21, 3) := by decide +kernel
theorem dX2_comeToRest_29 : decode cX2_comeToRest 29 = .ok (.aload_n 2, 1) := by decide +kernel
theorem dX2_comeToRest_30 : decode cX2_comeToRest 30 = .ok (.iload 4, 2) := by decide +kernel
theorem dX2_comeToRest_32 : decode cX2_comeToRest 32 = .ok (.aaload, 1) := by decide +kernel
theorem dX2_comeToRest_33 : decode cX2_comeToRest 33 = .ok (.astore 5, 2) := by decide +kernel
theorem dX2_comeToRest_35 : decode cX2_comeToRest 35 = .ok (.aload 5, 2) := by decide +kernel
theorem dX2_comeToRest_37 : decode cX2_comeToRest 37 = .ok (.iconst 0, 1) := by decide +kernel
theorem dX2_comeToRest_38 : decode cX2_comeToRest 38 = .ok (.putfield 178, 3) := by decide +kernel
theorem dX2_comeToRest_41 : decode cX2_comeToRest 41 = .ok (.iinc 4 1, 3) := by decide +kernel
theorem dX2_comeToRest_44 : decode cX2_comeToRest 44 = .ok (.goto (-21), 3) := by decide +kernel
theorem dX2_comeToRest_47 : decode cX2_comeToRest 47 = .ok (.aload_n 0, 1) := by decide +kernel
theorem dX2_comeToRest_48 : decode cX2_comeToRest 48 = .ok (.getfield 19, 3) := by decide +kernel
theorem dX2_comeToRest_51 : decode cX2_comeToRest 51 = .ok (.astore_n 2, 1) := by decide +kernel
theorem dX2_comeToRest_52 : decode cX2_comeToRest 52 = .ok (.aload_n 2, 1) := by decide +kernel
theorem dX2_comeToRest_53 : decode cX2_comeToRest 53 = .ok (.arraylength, 1) := by decide +kernel
theorem dX2_comeToRest_54 : decode cX2_comeToRest 54 = .ok (.istore_n 3, 1) := by decide +kernel
theorem dX2_comeToRest_55 : decode cX2_comeToRest 55 = .ok (.iconst 0, 1) := by decide +kernel
theorem dX2_comeToRest_56 : decode cX2_comeToRest 56 = .ok (.istore 4, 2) := by decide +kernel
theorem dX2_comeToRest_58 : decode cX2_comeToRest 58 = .ok (.iload 4, 2) := by decide +kernel
theorem dX2_comeToRest_60 : decode cX2_comeToRest 60 = .ok (.iload_n 3, 1) := by decide +kernel
theorem dX2_comeToRest_61 : decode cX2_comeToRest 61 = .ok (.if_icmp .ge 42, 3) := by decide +kernel
theorem dX2_comeToRest_64 : decode cX2_comeToRest 64 = .ok (.aload_n 2, 1) := by decide +kernel
theorem dX2_comeToRest_65 : decode cX2_comeToRest 65 = .ok (.iload 4, 2) := by decide +kernel
theorem dX2_comeToRest_67 : decode cX2_comeToRest 67 = .ok (.aaload, 1) := by decide +kernel
theorem dX2_comeToRest_68 : decode cX2_comeToRest 68 = .ok (.astore 5, 2) := by decide +kernel
theorem dX2_comeToRest_70 : decode cX2_comeToRest 70 = .ok (.aload 5, 2) := by decide +kernel
theorem dX2_comeToRest_72 : decode cX2_comeToRest 72 = .ok (.invokevirtual 62, 3) := by decide +kernel
theorem dX2_comeToRest_75 : decode cX2_comeToRest 75 = .ok (.ifCond .eq 22, 3) := by decide +kernel
theorem dX2_comeToRest_78 : decode cX2_comeToRest 78 = .ok (.aload 5, 2) := by decide +kernel
theorem dX2_comeToRest_80 : decode cX2_comeToRest 80 = .ok (.aload_n 1, 1) := by decide +kernel
theorem dX2_comeToRest_81 : decode cX2_comeToRest 81 = .ok (.getfield 169, 3) := by decide +kernel
theorem dX2_comeToRest_84 : decode cX2_comeToRest 84 = .ok (.putfield 212, 3) := by decide +kernel
theorem dX2_comeToRest_87 : decode cX2_comeToRest 87 = .ok (.aload_n 1, 1) := by decide +kernel
theorem dX2_comeToRest_88 : decode cX2_comeToRest 88 = .ok (.dup, 1) := by decide +kernel
theorem dX2_comeToRest_89 : decode cX2_comeToRest 89 = .ok (.getfield 178, 3) := by decide +kernel
theorem dX2_comeToRest_92 : decode cX2_comeToRest 92 = .ok (.iconst 1, 1) := by decide +kernel
theorem dX2_comeToRest_93 : decode cX2_comeToRest 93 = .ok (.iadd, 1) := by decide +kernel
theorem dX2_comeToRest_94 : decode cX2_comeToRest 94 = .ok (.putfield 178, 3) := by decide +kernel
theorem dX2_comeToRest_97 : decode cX2_comeToRest 97 = .ok (.iinc 4 1, 3) := by decide +kernel
theorem dX2_comeToRest_100 : decode cX2_comeToRest 100 = .ok (.goto (-42), 3) := by decide +kernel
theorem dX2_comeToRest_103 : decode cX2_comeToRest 103 = .ok (.iconst 0, 1) := by decide +kernel
theorem dX2_comeToRest_104 : decode cX2_comeToRest 104 = .ok (.istore_n 2, 1) := by decide +kernel
theorem dX2_comeToRest_105 : decode cX2_comeToRest 105 = .ok (.iload_n 2, 1) := by decide +kernel
theorem dX2_comeToRest_106 : decode cX2_comeToRest 106 = .ok (.bipush 20, 2) := by decide +kernel
theorem dX2_comeToRest_108 : decode cX2_comeToRest 108 = .ok (.if_icmp .gt 18, 3) := by decide +kernel
theorem dX2_comeToRest_111 : decode cX2_comeToRest 111 = .ok (.aload_n 0, 1) := by decide +kernel
theorem dX2_comeToRest_112 : decode cX2_comeToRest 112 = .ok (.invokevirtual 215, 3) := by decide +kernel
theorem dX2_comeToRest_115 : decode cX2_comeToRest 115 = .ok (.ifCond .ne 5, 3) := by decide +kernel
theorem dX2_comeToRest_118 : decode cX2_comeToRest 118 = .ok (.iload_n 2, 1) := by decide +kernel
theorem dX2_comeToRest_119 : decode cX2_comeToRest 119 = .ok (.ireturn, 1) := by decide +kernel
theorem dX2_comeToRest_120 : decode cX2_comeToRest 120 = .ok (.iinc 2 1, 3) := by decide +kernel
theorem dX2_comeToRest_123 : decode cX2_comeToRest 123 = .ok (.goto (-18), 3) := by decide +kernel
theorem dX2_comeToRest_126 : decode cX2_comeToRest 126 = .ok (.iconst (-1), 1) := by decide +kernel
theorem dX2_comeToRest_127 : decode cX2_comeToRest 127 = .ok (.ireturn, 1) := by decide +kernel
theorem dX2_moveAll_0 : decode cX2_moveAll 0 = .ok (.iconst 0, 1) := by decide +kernel
theorem dX2_moveAll_1 : decode cX2_moveAll 1 = .ok (.istore_n 1, 1) := by decide +kernel
theorem dX2_moveAll_2 : decode cX2_moveAll 2 = .ok (.aload_n 0, 1) := by decide +kernel
theorem dX2_moveAll_3 : decode cX2_moveAll 3 = .ok (.getfield 19, 3) := by decide +kernel
theorem dX2_moveAll_6 : decode cX2_moveAll 6 = .ok (.astore_n 2, 1) := by decide +kernel
theorem dX2_moveAll_7 : decode cX2_moveAll 7 = .ok (.aload_n 2, 1) := by decide +kernel
theorem dX2_moveAll_8 : decode cX2_moveAll 8 = .ok (.arraylength, 1) := by decide +kernel
theorem dX2_moveAll_9 : decode cX2_moveAll 9 = .ok (.istore_n 3, 1) := by decide +kernel
theorem dX2_moveAll_10 : decode cX2_moveAll 10 = .ok (.iconst 0, 1) := by decide +kernel
theorem dX2_moveAll_11 : decode cX2_moveAll 11 = .ok (.istore 4, 2) := by decide +kernel
theorem dX2_moveAll_13 : decode cX2_moveAll 13 = .ok (.iload 4, 2) := by decide +kernel
theorem dX2_moveAll_15 : decode cX2_moveAll 15 = .ok (.iload_n 3, 1) := by decide +kernel
theorem dX2_moveAll_16 : decode cX2_moveAll 16 = .ok (.if_icmp .ge 34, 3) := by decide +kernel
theorem dX2_moveAll_19 : decode cX2_moveAll 19 = .ok (.aload_n 2, 1) := by decide +kernel
theorem dX2_moveAll_20 : decode cX2_moveAll 20 = .ok (.iload 4, 2) := by decide +kernel
theorem dX2_moveAll_22 : decode cX2_moveAll 22 = .ok (.aaload, 1) := by decide +kernel
theorem dX2_moveAll_23 : decode cX2_moveAll 23 = .ok (.astore 5, 2) := by decide +kernel
theorem dX2_moveAll_25 : decode cX2_moveAll 25 = .ok (.aload 5, 2) := by decide +kernel
theorem dX2_moveAll_27 : decode cX2_moveAll 27 = .ok (.invokevirtual 62, 3) := by decide +kernel
theorem dX2_moveAll_30 : decode cX2_moveAll 30 = .ok (.ifCond .eq 14, 3) := by decide +kernel
theorem dX2_moveAll_33 : decode cX2_moveAll 33 = .ok (.aload_n 0, 1) := by decide +kernel
theorem dX2_moveAll_34 : decode cX2_moveAll 34 = .ok (.aload 5, 2) := by decide +kernel
theorem dX2_moveAll_36 : decode cX2_moveAll 36 = .ok (.invokevirtual 218, 3) := by decide +kernel
theorem dX2_moveAll_39 : decode cX2_moveAll 39 = .ok (.ifCond .eq 5, 3) := by decide +kernel
theorem dX2_moveAll_42 : decode cX2_moveAll 42 = .ok (.iconst 1, 1) := by decide +kernel
theorem dX2_moveAll_43 : decode cX2_moveAll 43 = .ok (.istore_n 1, 1) := by decide +kernel
theorem dX2_moveAll_44 : decode cX2_moveAll 44 = .ok (.iinc 4 1, 3) := by decide +kernel
theorem dX2_moveAll_47 : decode cX2_moveAll 47 = .ok (.goto (-34), 3) := by decide +kernel
theorem dX2_moveAll_50 : decode cX2_moveAll 50 = .ok (.iload_n 1, 1) := by decide +kernel
theorem dX2_moveAll_51 : decode cX2_moveAll 51 = .ok (.ireturn, 1) := by decide +kernel
theorem dX2_moveOne_0 : decode cX2_moveOne 0 = .ok (.aload_n 0, 1) := by decide +kernel
theorem dX2_moveOne_1 : decode cX2_moveOne 1 = .ok (.aload_n 1, 1) := by decide +kernel
theorem dX2_moveOne_2 : decode cX2_moveOne 2 = .ok (.getfield 212, 3) := by decide +kernel
theorem dX2_moveOne_5 : decode cX2_moveOne 5 = .ok (.invokevirtual 123, 3) := by decide +kernel
theorem dX2_moveOne_8 : decode cX2_moveOne 8 = .ok (.astore_n 2, 1) := by decide +kernel
theorem dX2_moveOne_9 : decode cX2_moveOne 9 = .ok (.aload_n 2, 1) := by decide +kernel
theorem dX2_moveOne_10 : decode cX2_moveOne 10 = .ok (.ifnonnull 5, 3) := by decide +kernel
theorem dX2_moveOne_13 : decode cX2_moveOne 13 = .ok (.iconst 0, 1) := by decide +kernel
theorem dX2_moveOne_14 : decode cX2_moveOne 14 = .ok (.ireturn, 1) := by decide +kernel
theorem dX2_moveOne_15 : decode cX2_moveOne 15 = .ok (.aload_n 2, 1) := by decide +kernel
theorem dX2_moveOne_16 : decode cX2_moveOne 16 = .ok (.astore_n 3, 1) := by decide +kernel
theorem dX2_moveOne_17 : decode cX2_moveOne 17 = .ok (.aload_n 2, 1) := by decide +kernel
theorem dX2_moveOne_18 : decode cX2_moveOne 18 = .ok (.aload_n 2, 1) := by decide +kernel
theorem dX2_moveOne_19 : decode cX2_moveOne 19 = .ok (.getfield 178, 3) := by decide +kernel
theorem dX2_moveOne_22 : decode cX2_moveOne 22 = .ok (.aload_n 1, 1) := by decide +kernel
theorem dX2_moveOne_23 : decode cX2_moveOne 23 = .ok (.getfield 175, 3) := by decide +kernel
theorem dX2_moveOne_26 : decode cX2_moveOne 26 = .ok (.invokevirtual 221, 3) := by decide +kernel
theorem dX2_moveOne_29 : decode cX2_moveOne 29 = .ok (.istore 4, 2) := by decide +kernel
theorem dX2_moveOne_31 : decode cX2_moveOne 31 = .ok (.aload_n 0, 1) := by decide +kernel
theorem dX2_moveOne_32 : decode cX2_moveOne 32 = .ok (.getfield 11, 3) := by decide +kernel
theorem dX2_moveOne_35 : decode cX2_moveOne 35 = .ok (.astore 5, 2) := by decide +kernel
theorem dX2_moveOne_37 : decode cX2_moveOne 37 = .ok (.aload 5, 2) := by decide +kernel
theorem dX2_moveOne_39 : decode cX2_moveOne 39 = .ok (.arraylength, 1) := by decide +kernel
theorem dX2_moveOne_40 : decode cX2_moveOne 40 = .ok (.istore 6, 2) := by decide +kernel
theorem dX2_moveOne_42 : decode cX2_moveOne 42 = .ok (.iconst 0, 1) := by decide +kernel
theorem dX2_moveOne_43 : decode cX2_moveOne 43 = .ok (.istore 7, 2) := by decide +kernel
theorem dX2_moveOne_45 : decode cX2_moveOne 45 = .ok (.iload 7, 2) := by decide +kernel
theorem dX2_moveOne_47 : decode cX2_moveOne 47 = .ok (.iload 6, 2) := by decide +kernel
theorem dX2_moveOne_49 : decode cX2_moveOne 49 = .ok (.if_icmp .ge 65, 3) := by decide +kernel
theorem dX2_moveOne_52 : decode cX2_moveOne 52 = .ok (.aload 5, 2) := by decide +kernel
theorem dX2_moveOne_54 : decode cX2_moveOne 54 = .ok (.iload 7, 2) := by decide +kernel
theorem dX2_moveOne_56 : decode cX2_moveOne 56 = .ok (.aaload, 1) := by decide +kernel
theorem dX2_moveOne_57 : decode cX2_moveOne 57 = .ok (.astore 8, 2) := by decide +kernel
theorem dX2_moveOne_59 : decode cX2_moveOne 59 = .ok (.aload 8, 2) := by decide +kernel
theorem dX2_moveOne_61 : decode cX2_moveOne 61 = .ok (.invokevirtual 54, 3) := by decide +kernel
theorem dX2_moveOne_64 : decode cX2_moveOne 64 = .ok (.ifCond .eq 44, 3) := by decide +kernel
theorem dX2_moveOne_67 : decode cX2_moveOne 67 = .ok (.aload 8, 2) := by decide +kernel
theorem dX2_moveOne_69 : decode cX2_moveOne 69 = .ok (.aload_n 2, 1) := by decide +kernel
theorem dX2_moveOne_70 : decode cX2_moveOne 70 = .ok (.if_acmp .ne 6, 3) := by decide +kernel
theorem dX2_moveOne_73 : decode cX2_moveOne 73 = .ok (.goto 35, 3) := by decide +kernel
theorem dX2_moveOne_76 : decode cX2_moveOne 76 = .ok (.aload 8, 2) := by decide +kernel
theorem dX2_moveOne_78 : decode cX2_moveOne 78 = .ok (.aload 8, 2) := by decide +kernel
theorem dX2_moveOne_80 : decode cX2_moveOne 80 = .ok (.getfield 178, 3) := by decide +kernel
theorem dX2_moveOne_83 : decode cX2_moveOne 83 = .ok (.iconst 1, 1) := by decide +kernel
theorem dX2_moveOne_84 : decode cX2_moveOne 84 = .ok (.iadd, 1) := by decide +kernel
theorem dX2_moveOne_85 : decode cX2_moveOne 85 = .ok (.aload_n 1, 1) := by decide +kernel
theorem dX2_moveOne_86 : decode cX2_moveOne 86 = .ok (.getfield 175, 3) := by decide +kernel
theorem dX2_moveOne_89 : decode cX2_moveOne 89 = .ok (.invokevirtual 221, 3) := by decide +kernel
theorem dX2_moveOne_92 : decode cX2_moveOne 92 = .ok (.istore 9, 2) := by decide +kernel
theorem dX2_moveOne_94 : decode cX2_moveOne 94 = .ok (.iload 9, 2) := by decide +kernel
theorem dX2_moveOne_96 : decode cX2_moveOne 96 = .ok (.iload 4, 2) := by decide +kernel
theorem dX2_moveOne_98 : decode cX2_moveOne 98 = .ok (.if_icmp .le 10, 3) := by decide +kernel
theorem dX2_moveOne_101 : decode cX2_moveOne 101 = .ok (.iload 9, 2) := by decide +kernel
theorem dX2_moveOne_103 : decode cX2_moveOne 103 = .ok (.istore 4, 2) := by decide +kernel
theorem dX2_moveOne_105 : decode cX2_moveOne 105 = .ok (.aload 8, 2) := by decide +kernel
theorem dX2_moveOne_107 : decode cX2_moveOne 107 = .ok (.astore_n 3, 1) := by decide +kernel
theorem dX2_moveOne_108 : decode cX2_moveOne 108 = .ok (.iinc 7 1, 3) := by decide +kernel
theorem dX2_moveOne_111 : decode cX2_moveOne 111 = .ok (.goto (-66), 3) := by decide +kernel
theorem dX2_moveOne_114 : decode cX2_moveOne 114 = .ok (.aload_n 3, 1) := by decide +kernel
theorem dX2_moveOne_115 : decode cX2_moveOne 115 = .ok (.aload_n 2, 1) := by decide +kernel
theorem dX2_moveOne_116 : decode cX2_moveOne 116 = .ok (.if_acmp .ne 5, 3) := by decide +kernel
theorem dX2_moveOne_119 : decode cX2_moveOne 119 = .ok (.iconst 0, 1) := by decide +kernel
theorem dX2_moveOne_120 : decode cX2_moveOne 120 = .ok (.ireturn, 1) := by decide +kernel
theorem dX2_moveOne_121 : decode cX2_moveOne 121 = .ok (.aload_n 2, 1) := by decide +kernel
theorem dX2_moveOne_122 : decode cX2_moveOne 122 = .ok (.dup, 1) := by decide +kernel
theorem dX2_moveOne_123 : decode cX2_moveOne 123 = .ok (.getfield 178, 3) := by decide +kernel
theorem dX2_moveOne_126 : decode cX2_moveOne 126 = .ok (.iconst 1, 1) := by decide +kernel
theorem dX2_moveOne_127 : decode cX2_moveOne 127 = .ok (.isub, 1) := by decide +kernel
theorem dX2_moveOne_128 : decode cX2_moveOne 128 = .ok (.putfield 178, 3) := by decide +kernel
theorem dX2_moveOne_131 : decode cX2_moveOne 131 = .ok (.aload_n 3, 1) := by decide +kernel
theorem dX2_moveOne_132 : decode cX2_moveOne 132 = .ok (.dup, 1) := by decide +kernel
theorem dX2_moveOne_133 : decode cX2_moveOne 133 = .ok (.getfield 178, 3) := by decide +kernel
theorem dX2_moveOne_136 : decode cX2_moveOne 136 = .ok (.iconst 1, 1) := by decide +kernel
theorem dX2_moveOne_137 : decode cX2_moveOne 137 = .ok (.iadd, 1) := by decide +kernel
theorem dX2_moveOne_138 : decode cX2_moveOne 138 = .ok (.putfield 178, 3) := by decide +kernel
theorem dX2_moveOne_141 : decode cX2_moveOne 141 = .ok (.aload_n 1, 1) := by decide +kernel
theorem dX2_moveOne_142 : decode cX2_moveOne 142 = .ok (.aload_n 3, 1) := by decide +kernel
theorem dX2_moveOne_143 : decode cX2_moveOne 143 = .ok (.getfield 169, 3) := by decide +kernel
theorem dX2_moveOne_146 : decode cX2_moveOne 146 = .ok (.putfield 212, 3) := by decide +kernel
theorem dX2_moveOne_149 : decode cX2_moveOne 149 = .ok (.iconst 1, 1) := by decide +kernel
theorem dX2_moveOne_150 : decode cX2_moveOne 150 = .ok (.ireturn, 1) := by decide +kernel
