/-! decode rows -/
theorem dX6_init_0 : decode cX6_init 0 = .ok (.aload_n 0, 1) := by decide +kernel
theorem dX6_init_1 : decode cX6_init 1 = .ok (.invokespecial 1, 3) := by decide +kernel
theorem dX6_init_4 : decode cX6_init 4 = .ok (.aload_n 0, 1) := by decide +kernel
theorem dX6_init_5 : decode cX6_init 5 = .ok (.new 7, 3) := by decide +kernel
theorem dX6_init_8 : decode cX6_init 8 = .ok (.dup, 1) := by decide +kernel
theorem dX6_init_9 : decode cX6_init 9 = .ok (.invokespecial 9, 3) := by decide +kernel
theorem dX6_init_12 : decode cX6_init 12 = .ok (.putfield 10, 3) := by decide +kernel
theorem dX6_init_15 : decode cX6_init 15 = .ok (.aload_n 0, 1) := by decide +kernel
theorem dX6_init_16 : decode cX6_init 16 = .ok (.new 7, 3) := by decide +kernel
theorem dX6_init_19 : decode cX6_init 19 = .ok (.dup, 1) := by decide +kernel
theorem dX6_init_20 : decode cX6_init 20 = .ok (.invokespecial 9, 3) := by decide +kernel
theorem dX6_init_23 : decode cX6_init 23 = .ok (.putfield 16, 3) := by decide +kernel
theorem dX6_init_26 : decode cX6_init 26 = .ok (.aload_n 0, 1) := by decide +kernel
theorem dX6_init_27 : decode cX6_init 27 = .ok (.new 7, 3) := by decide +kernel
theorem dX6_init_30 : decode cX6_init 30 = .ok (.dup, 1) := by decide +kernel
theorem dX6_init_31 : decode cX6_init 31 = .ok (.invokespecial 9, 3) := by decide +kernel
theorem dX6_init_34 : decode cX6_init 34 = .ok (.putfield 19, 3) := by decide +kernel
theorem dX6_init_37 : decode cX6_init 37 = .ok (.aload_n 0, 1) := by decide +kernel
theorem dX6_init_38 : decode cX6_init 38 = .ok (.bipush 8, 2) := by decide +kernel
theorem dX6_init_40 : decode cX6_init 40 = .ok (.anewarray 22, 3) := by decide +kernel
theorem dX6_init_43 : decode cX6_init 43 = .ok (.putfield 24, 3) := by decide +kernel
theorem dX6_init_46 : decode cX6_init 46 = .ok (.aload_n 0, 1) := by decide +kernel
theorem dX6_init_47 : decode cX6_init 47 = .ok (.bipush 8, 2) := by decide +kernel
theorem dX6_init_49 : decode cX6_init 49 = .ok (.newarray .int, 2) := by decide +kernel
theorem dX6_init_51 : decode cX6_init 51 = .ok (.putfield 28, 3) := by decide +kernel
theorem dX6_init_54 : decode cX6_init 54 = .ok (.aload_n 0, 1) := by decide +kernel
theorem dX6_init_55 : decode cX6_init 55 = .ok (.new 32, 3) := by decide +kernel
theorem dX6_init_58 : decode cX6_init 58 = .ok (.dup, 1) := by decide +kernel
theorem dX6_init_59 : decode cX6_init 59 = .ok (.invokespecial 34, 3) := by decide +kernel
theorem dX6_init_62 : decode cX6_init 62 = .ok (.putfield 35, 3) := by decide +kernel
theorem dX6_init_65 : decode cX6_init 65 = .ok (.aload_n 0, 1) := by decide +kernel
theorem dX6_init_66 : decode cX6_init 66 = .ok (.new 39, 3) := by decide +kernel
theorem dX6_init_69 : decode cX6_init 69 = .ok (.dup, 1) := by decide +kernel
theorem dX6_init_70 : decode cX6_init 70 = .ok (.invokespecial 41, 3) := by decide +kernel
theorem dX6_init_73 : decode cX6_init 73 = .ok (.putfield 42, 3) := by decide +kernel
theorem dX6_init_76 : decode cX6_init 76 = .ok (.iconst 0, 1) := by decide +kernel
theorem dX6_init_77 : decode cX6_init 77 = .ok (.istore_n 1, 1) := by decide +kernel
theorem dX6_init_78 : decode cX6_init 78 = .ok (.iload_n 1, 1) := by decide +kernel
theorem dX6_init_79 : decode cX6_init 79 = .ok (.aload_n 0, 1) := by decide +kernel
theorem dX6_init_80 : decode cX6_init 80 = .ok (.getfield 24, 3) := by decide +kernel
theorem dX6_init_83 : decode cX6_init 83 = .ok (.arraylength, 1) := by decide +kernel
theorem dX6_init_84 : decode cX6_init 84 = .ok (.if_icmp .ge 22, 3) := by decide +kernel
theorem dX6_init_87 : decode cX6_init 87 = .ok (.aload_n 0, 1) := by decide +kernel
theorem dX6_init_88 : decode cX6_init 88 = .ok (.getfield 24, 3) := by decide +kernel
theorem dX6_init_91 : decode cX6_init 91 = .ok (.iload_n 1, 1) := by decide +kernel
theorem dX6_init_92 : decode cX6_init 92 = .ok (.new 22, 3) := by decide +kernel
theorem dX6_init_95 : decode cX6_init 95 = .ok (.dup, 1) := by decide +kernel
theorem dX6_init_96 : decode cX6_init 96 = .ok (.invokespecial 46, 3) := by decide +kernel
theorem dX6_init_99 : decode cX6_init 99 = .ok (.aastore, 1) := by decide +kernel
theorem dX6_init_100 : decode cX6_init 100 = .ok (.iinc 1 1, 3) := by decide +kernel
theorem dX6_init_103 : decode cX6_init 103 = .ok (.goto (-25), 3) := by decide +kernel
theorem dX6_init_106 : decode cX6_init 106 = .ok (.return_, 1) := by decide +kernel
theorem dX6_row_0 : decode cX6_row 0 = .ok (.aload_n 0, 1) := by decide +kernel
theorem dX6_row_1 : decode cX6_row 1 = .ok (.iload_n 1, 1) := by decide +kernel
theorem dX6_row_2 : decode cX6_row 2 = .ok (.invokevirtual 47, 3) := by decide +kernel
theorem dX6_row_5 : decode cX6_row 5 = .ok (.astore 4, 2) := by decide +kernel
theorem dX6_row_7 : decode cX6_row 7 = .ok (.aload 4, 2) := by decide +kernel
theorem dX6_row_9 : decode cX6_row 9 = .ok (.ifnonnull 10, 3) := by decide +kernel
theorem dX6_row_12 : decode cX6_row 12 = .ok (.aload_n 0, 1) := by decide +kernel
theorem dX6_row_13 : decode cX6_row 13 = .ok (.iconst 0, 1) := by decide +kernel
theorem dX6_row_14 : decode cX6_row 14 = .ok (.iconst 1, 1) := by decide +kernel
theorem dX6_row_15 : decode cX6_row 15 = .ok (.invokevirtual 51, 3) := by decide +kernel
theorem dX6_row_18 : decode cX6_row 18 = .ok (.ireturn, 1) := by decide +kernel
theorem dX6_row_19 : decode cX6_row 19 = .ok (.iload_n 3, 1) := by decide +kernel
theorem dX6_row_20 : decode cX6_row 20 = .ok (.ifCond .ge 10, 3) := by decide +kernel
theorem dX6_row_23 : decode cX6_row 23 = .ok (.aload_n 0, 1) := by decide +kernel
theorem dX6_row_24 : decode cX6_row 24 = .ok (.iconst 0, 1) := by decide +kernel
theorem dX6_row_25 : decode cX6_row 25 = .ok (.iconst 4, 1) := by decide +kernel
theorem dX6_row_26 : decode cX6_row 26 = .ok (.invokevirtual 51, 3) := by decide +kernel
theorem dX6_row_29 : decode cX6_row 29 = .ok (.ireturn, 1) := by decide +kernel
theorem dX6_row_30 : decode cX6_row 30 = .ok (.iload_n 2, 1) := by decide +kernel
theorem dX6_row_31 : decode cX6_row 31 = .ok (.ifCond .lt 8, 3) := by decide +kernel
theorem dX6_row_34 : decode cX6_row 34 = .ok (.iload_n 2, 1) := by decide +kernel
theorem dX6_row_35 : decode cX6_row 35 = .ok (.iconst 4, 1) := by decide +kernel
theorem dX6_row_36 : decode cX6_row 36 = .ok (.if_icmp .lt 11, 3) := by decide +kernel
theorem dX6_row_39 : decode cX6_row 39 = .ok (.aload_n 0, 1) := by decide +kernel
theorem dX6_row_40 : decode cX6_row 40 = .ok (.iconst 0, 1) := by decide +kernel
theorem dX6_row_41 : decode cX6_row 41 = .ok (.bipush 6, 2) := by decide +kernel
theorem dX6_row_43 : decode cX6_row 43 = .ok (.invokevirtual 51, 3) := by decide +kernel
theorem dX6_row_46 : decode cX6_row 46 = .ok (.ireturn, 1) := by decide +kernel
theorem dX6_row_47 : decode cX6_row 47 = .ok (.iload_n 3, 1) := by decide +kernel
theorem dX6_row_48 : decode cX6_row 48 = .ok (.sipush 160, 3) := by decide +kernel
theorem dX6_row_51 : decode cX6_row 51 = .ok (.if_icmp .le 11, 3) := by decide +kernel
theorem dX6_row_54 : decode cX6_row 54 = .ok (.aload_n 0, 1) := by decide +kernel
theorem dX6_row_55 : decode cX6_row 55 = .ok (.iconst 0, 1) := by decide +kernel
theorem dX6_row_56 : decode cX6_row 56 = .ok (.bipush 7, 2) := by decide +kernel
theorem dX6_row_58 : decode cX6_row 58 = .ok (.invokevirtual 51, 3) := by decide +kernel
theorem dX6_row_61 : decode cX6_row 61 = .ok (.ireturn, 1) := by decide +kernel
theorem dX6_row_62 : decode cX6_row 62 = .ok (.aload 4, 2) := by decide +kernel
theorem dX6_row_64 : decode cX6_row 64 = .ok (.iload_n 2, 1) := by decide +kernel
theorem dX6_row_65 : decode cX6_row 65 = .ok (.iload_n 3, 1) := by decide +kernel
theorem dX6_row_66 : decode cX6_row 66 = .ok (.invokevirtual 55, 3) := by decide +kernel
theorem dX6_row_69 : decode cX6_row 69 = .ok (.iconst 1, 1) := by decide +kernel
theorem dX6_row_70 : decode cX6_row 70 = .ok (.ireturn, 1) := by decide +kernel
theorem dX6_set_0 : decode cX6_set 0 = .ok (.aload_n 0, 1) := by decide +kernel
theorem dX6_set_1 : decode cX6_set 1 = .ok (.iload_n 1, 1) := by decide +kernel
theorem dX6_set_2 : decode cX6_set 2 = .ok (.invokevirtual 59, 3) := by decide +kernel
theorem dX6_set_5 : decode cX6_set 5 = .ok (.istore 5, 2) := by decide +kernel
theorem dX6_set_7 : decode cX6_set 7 = .ok (.iload 5, 2) := by decide +kernel
theorem dX6_set_9 : decode cX6_set 9 = .ok (.ifCond .eq 11, 3) := by decide +kernel
theorem dX6_set_12 : decode cX6_set 12 = .ok (.aload_n 0, 1) := by decide +kernel
theorem dX6_set_13 : decode cX6_set 13 = .ok (.iconst 0, 1) := by decide +kernel
theorem dX6_set_14 : decode cX6_set 14 = .ok (.iload 5, 2) := by decide +kernel
theorem dX6_set_16 : decode cX6_set 16 = .ok (.invokevirtual 51, 3) := by decide +kernel
theorem dX6_set_19 : decode cX6_set 19 = .ok (.ireturn, 1) := by decide +kernel
theorem dX6_set_20 : decode cX6_set 20 = .ok (.aload_n 0, 1) := by decide +kernel
theorem dX6_set_21 : decode cX6_set 21 = .ok (.iload_n 1, 1) := by decide +kernel
theorem dX6_set_22 : decode cX6_set 22 = .ok (.invokevirtual 47, 3) := by decide +kernel
theorem dX6_set_25 : decode cX6_set 25 = .ok (.astore 6, 2) := by decide +kernel
theorem dX6_set_27 : decode cX6_set 27 = .ok (.aload 6, 2) := by decide +kernel
theorem dX6_set_29 : decode cX6_set 29 = .ok (.ifnull 12, 3) := by decide +kernel
theorem dX6_set_32 : decode cX6_set 32 = .ok (.aload 6, 2) := by decide +kernel
theorem dX6_set_34 : decode cX6_set 34 = .ok (.iload_n 2, 1) := by decide +kernel
theorem dX6_set_35 : decode cX6_set 35 = .ok (.invokevirtual 63, 3) := by decide +kernel
theorem dX6_set_38 : decode cX6_set 38 = .ok (.ifCond .ne 10, 3) := by decide +kernel
theorem dX6_set_41 : decode cX6_set 41 = .ok (.aload_n 0, 1) := by decide +kernel
theorem dX6_set_42 : decode cX6_set 42 = .ok (.iconst 0, 1) := by decide +kernel
theorem dX6_set_43 : decode cX6_set 43 = .ok (.iconst 5, 1) := by decide +kernel
theorem dX6_set_44 : decode cX6_set 44 = .ok (.invokevirtual 51, 3) := by decide +kernel
theorem dX6_set_47 : decode cX6_set 47 = .ok (.ireturn, 1) := by decide +kernel
theorem dX6_set_48 : decode cX6_set 48 = .ok (.aload 6, 2) := by decide +kernel
theorem dX6_set_50 : decode cX6_set 50 = .ok (.iload_n 2, 1) := by decide +kernel
theorem dX6_set_51 : decode cX6_set 51 = .ok (.lload_n 3, 1) := by decide +kernel
theorem dX6_set_52 : decode cX6_set 52 = .ok (.invokevirtual 67, 3) := by decide +kernel
theorem dX6_set_55 : decode cX6_set 55 = .ok (.iconst 1, 1) := by decide +kernel
theorem dX6_set_56 : decode cX6_set 56 = .ok (.ireturn, 1) := by decide +kernel
theorem dX6_copy_0 : decode cX6_copy 0 = .ok (.aload_n 0, 1) := by decide +kernel
theorem dX6_copy_1 : decode cX6_copy 1 = .ok (.iload_n 1, 1) := by decide +kernel
theorem dX6_copy_2 : decode cX6_copy 2 = .ok (.invokevirtual 47, 3) := by decide +kernel
theorem dX6_copy_5 : decode cX6_copy 5 = .ok (.astore 6, 2) := by decide +kernel
theorem dX6_copy_7 : decode cX6_copy 7 = .ok (.aload_n 0, 1) := by decide +kernel
theorem dX6_copy_8 : decode cX6_copy 8 = .ok (.iload_n 2, 1) := by decide +kernel
theorem dX6_copy_9 : decode cX6_copy 9 = .ok (.invokevirtual 47, 3) := by decide +kernel
theorem dX6_copy_12 : decode cX6_copy 12 = .ok (.astore 7, 2) := by decide +kernel
theorem dX6_copy_14 : decode cX6_copy 14 = .ok (.aload 6, 2) := by decide +kernel
theorem dX6_copy_16 : decode cX6_copy 16 = .ok (.ifnull 8, 3) := by decide +kernel
theorem dX6_copy_19 : decode cX6_copy 19 = .ok (.aload 7, 2) := by decide +kernel
theorem dX6_copy_21 : decode cX6_copy 21 = .ok (.ifnonnull 10, 3) := by decide +kernel
theorem dX6_copy_24 : decode cX6_copy 24 = .ok (.aload_n 0, 1) := by decide +kernel
theorem dX6_copy_25 : decode cX6_copy 25 = .ok (.iconst 0, 1) := by decide +kernel
theorem dX6_copy_26 : decode cX6_copy 26 = .ok (.iconst 1, 1) := by decide +kernel
theorem dX6_copy_27 : decode cX6_copy 27 = .ok (.invokevirtual 51, 3) := by decide +kernel
theorem dX6_copy_30 : decode cX6_copy 30 = .ok (.ireturn, 1) := by decide +kernel
theorem dX6_copy_31 : decode cX6_copy 31 = .ok (.aload 6, 2) := by decide +kernel
theorem dX6_copy_33 : decode cX6_copy 33 = .ok (.invokevirtual 71, 3) := by decide +kernel
theorem dX6_copy_36 : decode cX6_copy 36 = .ok (.ifCond .ne 21, 3) := by decide +kernel
theorem dX6_copy_39 : decode cX6_copy 39 = .ok (.aload 7, 2) := by decide +kernel
theorem dX6_copy_41 : decode cX6_copy 41 = .ok (.invokevirtual 71, 3) := by decide +kernel
theorem dX6_copy_44 : decode cX6_copy 44 = .ok (.ifCond .ne 13, 3) := by decide +kernel
theorem dX6_copy_47 : decode cX6_copy 47 = .ok (.aload 6, 2) := by decide +kernel
theorem dX6_copy_49 : decode cX6_copy 49 = .ok (.aload 7, 2) := by decide +kernel
theorem dX6_copy_51 : decode cX6_copy 51 = .ok (.invokevirtual 75, 3) := by decide +kernel
theorem dX6_copy_54 : decode cX6_copy 54 = .ok (.ifCond .eq 10, 3) := by decide +kernel
theorem dX6_copy_57 : decode cX6_copy 57 = .ok (.aload_n 0, 1) := by decide +kernel
theorem dX6_copy_58 : decode cX6_copy 58 = .ok (.iconst 0, 1) := by decide +kernel
theorem dX6_copy_59 : decode cX6_copy 59 = .ok (.iconst 2, 1) := by decide +kernel
theorem dX6_copy_60 : decode cX6_copy 60 = .ok (.invokevirtual 51, 3) := by decide +kernel
theorem dX6_copy_63 : decode cX6_copy 63 = .ok (.ireturn, 1) := by decide +kernel
theorem dX6_copy_64 : decode cX6_copy 64 = .ok (.aload 6, 2) := by decide +kernel
theorem dX6_copy_66 : decode cX6_copy 66 = .ok (.invokevirtual 79, 3) := by decide +kernel
theorem dX6_copy_69 : decode cX6_copy 69 = .ok (.ifCond .eq 11, 3) := by decide +kernel
theorem dX6_copy_72 : decode cX6_copy 72 = .ok (.aload 7, 2) := by decide +kernel
theorem dX6_copy_74 : decode cX6_copy 74 = .ok (.invokevirtual 79, 3) := by decide +kernel
theorem dX6_copy_77 : decode cX6_copy 77 = .ok (.ifCond .ne 10, 3) := by decide +kernel
theorem dX6_copy_80 : decode cX6_copy 80 = .ok (.aload_n 0, 1) := by decide +kernel
theorem dX6_copy_81 : decode cX6_copy 81 = .ok (.iconst 0, 1) := by decide +kernel
theorem dX6_copy_82 : decode cX6_copy 82 = .ok (.iconst 3, 1) := by decide +kernel
theorem dX6_copy_83 : decode cX6_copy 83 = .ok (.invokevirtual 51, 3) := by decide +kernel
theorem dX6_copy_86 : decode cX6_copy 86 = .ok (.ireturn, 1) := by decide +kernel
theorem dX6_copy_87 : decode cX6_copy 87 = .ok (.iload 5, 2) := by decide +kernel
theorem dX6_copy_89 : decode cX6_copy 89 = .ok (.ifCond .ge 10, 3) := by decide +kernel
theorem dX6_copy_92 : decode cX6_copy 92 = .ok (.aload_n 0, 1) := by decide +kernel
theorem dX6_copy_93 : decode cX6_copy 93 = .ok (.iconst 0, 1) := by decide +kernel
theorem dX6_copy_94 : decode cX6_copy 94 = .ok (.iconst 4, 1) := by decide +kernel
theorem dX6_copy_95 : decode cX6_copy 95 = .ok (.invokevirtual 51, 3) := by decide +kernel
theorem dX6_copy_98 : decode cX6_copy 98 = .ok (.ireturn, 1) := by decide +kernel
theorem dX6_copy_99 : decode cX6_copy 99 = .ok (.aload 6, 2) := by decide +kernel
theorem dX6_copy_101 : decode cX6_copy 101 = .ok (.iload_n 3, 1) := by decide +kernel
theorem dX6_copy_102 : decode cX6_copy 102 = .ok (.iload 5, 2) := by decide +kernel
theorem dX6_copy_104 : decode cX6_copy 104 = .ok (.invokevirtual 82, 3) := by decide +kernel
theorem dX6_copy_107 : decode cX6_copy 107 = .ok (.ifCond .eq 15, 3) := by decide +kernel
theorem dX6_copy_110 : decode cX6_copy 110 = .ok (.aload 7, 2) := by decide +kernel
theorem dX6_copy_112 : decode cX6_copy 112 = .ok (.iload 4, 2) := by decide +kernel
theorem dX6_copy_114 : decode cX6_copy 114 = .ok (.iload 5, 2) := by decide +kernel
theorem dX6_copy_116 : decode cX6_copy 116 = .ok (.invokevirtual 82, 3) := by decide +kernel
theorem dX6_copy_119 : decode cX6_copy 119 = .ok (.ifCond .ne 10, 3) := by decide +kernel
theorem dX6_copy_122 : decode cX6_copy 122 = .ok (.aload_n 0, 1) := by decide +kernel
theorem dX6_copy_123 : decode cX6_copy 123 = .ok (.iconst 0, 1) := by decide +kernel
theorem dX6_copy_124 : decode cX6_copy 124 = .ok (.iconst 5, 1) := by decide +kernel
theorem dX6_copy_125 : decode cX6_copy 125 = .ok (.invokevirtual 51, 3) := by decide +kernel
theorem dX6_copy_128 : decode cX6_copy 128 = .ok (.ireturn, 1) := by decide +kernel
theorem dX6_copy_129 : decode cX6_copy 129 = .ok (.aload 7, 2) := by decide +kernel
theorem dX6_copy_131 : decode cX6_copy 131 = .ok (.aload 6, 2) := by decide +kernel
theorem dX6_copy_133 : decode cX6_copy 133 = .ok (.iload_n 3, 1) := by decide +kernel
theorem dX6_copy_134 : decode cX6_copy 134 = .ok (.iload 4, 2) := by decide +kernel
theorem dX6_copy_136 : decode cX6_copy 136 = .ok (.iload 5, 2) := by decide +kernel
theorem dX6_copy_138 : decode cX6_copy 138 = .ok (.invokevirtual 86, 3) := by decide +kernel
theorem dX6_copy_141 : decode cX6_copy 141 = .ok (.iconst 1, 1) := by decide +kernel
theorem dX6_copy_142 : decode cX6_copy 142 = .ok (.ireturn, 1) := by decide +kernel
theorem dX6_element_0 : decode cX6_element 0 = .ok (.aload_n 0, 1) := by decide +kernel
theorem dX6_element_1 : decode cX6_element 1 = .ok (.iload_n 1, 1) := by decide +kernel
theorem dX6_element_2 : decode cX6_element 2 = .ok (.invokevirtual 47, 3) := by decide +kernel
theorem dX6_element_5 : decode cX6_element 5 = .ok (.astore_n 3, 1) := by decide +kernel
theorem dX6_element_6 : decode cX6_element 6 = .ok (.aload_n 3, 1) := by decide +kernel
theorem dX6_element_7 : decode cX6_element 7 = .ok (.ifnonnull 7, 3) := by decide +kernel
theorem dX6_element_10 : decode cX6_element 10 = .ok (.lconst 0, 1) := by decide +kernel
theorem dX6_element_11 : decode cX6_element 11 = .ok (.goto 8, 3) := by decide +kernel
theorem dX6_element_14 : decode cX6_element 14 = .ok (.aload_n 3, 1) := by decide +kernel
theorem dX6_element_15 : decode cX6_element 15 = .ok (.iload_n 2, 1) := by decide +kernel
theorem dX6_element_16 : decode cX6_element 16 = .ok (.invokevirtual 90, 3) := by decide +kernel
theorem dX6_element_19 : decode cX6_element 19 = .ok (.lreturn, 1) := by decide +kernel
theorem dX6_show_0 : decode cX6_show 0 = .ok (.aload_n 0, 1) := by decide +kernel
theorem dX6_show_1 : decode cX6_show 1 = .ok (.iload_n 1, 1) := by decide +kernel
theorem dX6_show_2 : decode cX6_show 2 = .ok (.invokevirtual 47, 3) := by decide +kernel
theorem dX6_show_5 : decode cX6_show 5 = .ok (.astore_n 3, 1) := by decide +kernel
theorem dX6_show_6 : decode cX6_show 6 = .ok (.aload_n 3, 1) := by decide +kernel
theorem dX6_show_7 : decode cX6_show 7 = .ok (.ifnull 19, 3) := by decide +kernel
theorem dX6_show_10 : decode cX6_show 10 = .ok (.iload_n 2, 1) := by decide +kernel
theorem dX6_show_11 : decode cX6_show 11 = .ok (.iconst (-1), 1) := by decide +kernel
theorem dX6_show_12 : decode cX6_show 12 = .ok (.if_icmp .eq 21, 3) := by decide +kernel
theorem dX6_show_15 : decode cX6_show 15 = .ok (.aload_n 0, 1) := by decide +kernel
theorem dX6_show_16 : decode cX6_show 16 = .ok (.getfield 10, 3) := by decide +kernel
theorem dX6_show_19 : decode cX6_show 19 = .ok (.iload_n 2, 1) := by decide +kernel
theorem dX6_show_20 : decode cX6_show 20 = .ok (.invokevirtual 94, 3) := by decide +kernel
theorem dX6_show_23 : decode cX6_show 23 = .ok (.ifnonnull 10, 3) := by decide +kernel
theorem dX6_show_26 : decode cX6_show 26 = .ok (.aload_n 0, 1) := by decide +kernel
theorem dX6_show_27 : decode cX6_show 27 = .ok (.iconst 0, 1) := by decide +kernel
theorem dX6_show_28 : decode cX6_show 28 = .ok (.iconst 1, 1) := by decide +kernel
theorem dX6_show_29 : decode cX6_show 29 = .ok (.invokevirtual 51, 3) := by decide +kernel
theorem dX6_show_32 : decode cX6_show 32 = .ok (.ireturn, 1) := by decide +kernel
theorem dX6_show_33 : decode cX6_show 33 = .ok (.aload_n 3, 1) := by decide +kernel
theorem dX6_show_34 : decode cX6_show 34 = .ok (.iload_n 2, 1) := by decide +kernel
theorem dX6_show_35 : decode cX6_show 35 = .ok (.invokevirtual 98, 3) := by decide +kernel
theorem dX6_show_38 : decode cX6_show 38 = .ok (.iload_n 2, 1) := by decide +kernel
theorem dX6_show_39 : decode cX6_show 39 = .ok (.iconst (-1), 1) := by decide +kernel
theorem dX6_show_40 : decode cX6_show 40 = .ok (.if_icmp .ne 7, 3) := by decide +kernel
theorem dX6_show_43 : decode cX6_show 43 = .ok (.iconst 0, 1) := by decide +kernel
theorem dX6_show_44 : decode cX6_show 44 = .ok (.goto 4, 3) := by decide +kernel
theorem dX6_show_47 : decode cX6_show 47 = .ok (.iconst 1, 1) := by decide +kernel
theorem dX6_show_48 : decode cX6_show 48 = .ok (.ireturn, 1) := by decide +kernel
theorem dX6_holds_0 : decode cX6_holds 0 = .ok (.aload_n 0, 1) := by decide +kernel
theorem dX6_holds_1 : decode cX6_holds 1 = .ok (.iload_n 1, 1) := by decide +kernel
theorem dX6_holds_2 : decode cX6_holds 2 = .ok (.invokevirtual 47, 3) := by decide +kernel
theorem dX6_holds_5 : decode cX6_holds 5 = .ok (.astore_n 2, 1) := by decide +kernel
theorem dX6_holds_6 : decode cX6_holds 6 = .ok (.aload_n 2, 1) := by decide +kernel
theorem dX6_holds_7 : decode cX6_holds 7 = .ok (.ifnonnull 5, 3) := by decide +kernel
theorem dX6_holds_10 : decode cX6_holds 10 = .ok (.iconst (-1), 1) := by decide +kernel
theorem dX6_holds_11 : decode cX6_holds 11 = .ok (.ireturn, 1) := by decide +kernel
theorem dX6_holds_12 : decode cX6_holds 12 = .ok (.aload_n 2, 1) := by decide +kernel
theorem dX6_holds_13 : decode cX6_holds 13 = .ok (.invokevirtual 79, 3) := by decide +kernel
theorem dX6_holds_16 : decode cX6_holds 16 = .ok (.ifCond .eq 13, 3) := by decide +kernel
theorem dX6_holds_19 : decode cX6_holds 19 = .ok (.bipush 100, 2) := by decide +kernel
theorem dX6_holds_21 : decode cX6_holds 21 = .ok (.aload_n 2, 1) := by decide +kernel
theorem dX6_holds_22 : decode cX6_holds 22 = .ok (.getfield 102, 3) := by decide +kernel
theorem dX6_holds_25 : decode cX6_holds 25 = .ok (.iadd, 1) := by decide +kernel
theorem dX6_holds_26 : decode cX6_holds 26 = .ok (.goto 7, 3) := by decide +kernel
theorem dX6_holds_29 : decode cX6_holds 29 = .ok (.aload_n 2, 1) := by decide +kernel
theorem dX6_holds_30 : decode cX6_holds 30 = .ok (.getfield 106, 3) := by decide +kernel
theorem dX6_holds_33 : decode cX6_holds 33 = .ok (.ireturn, 1) := by decide +kernel
theorem dX6_says_0 : decode cX6_says 0 = .ok (.aload_n 0, 1) := by decide +kernel
theorem dX6_says_1 : decode cX6_says 1 = .ok (.iload_n 1, 1) := by decide +kernel
theorem dX6_says_2 : decode cX6_says 2 = .ok (.invokevirtual 47, 3) := by decide +kernel
theorem dX6_says_5 : decode cX6_says 5 = .ok (.astore_n 3, 1) := by decide +kernel
theorem dX6_says_6 : decode cX6_says 6 = .ok (.aload_n 3, 1) := by decide +kernel
theorem dX6_says_7 : decode cX6_says 7 = .ok (.ifnull 13, 3) := by decide +kernel
theorem dX6_says_10 : decode cX6_says 10 = .ok (.iload_n 2, 1) := by decide +kernel
theorem dX6_says_11 : decode cX6_says 11 = .ok (.ifCond .lt 9, 3) := by decide +kernel
theorem dX6_says_14 : decode cX6_says 14 = .ok (.iload_n 2, 1) := by decide +kernel
theorem dX6_says_15 : decode cX6_says 15 = .ok (.bipush 7, 2) := by decide +kernel
theorem dX6_says_17 : decode cX6_says 17 = .ok (.if_icmp .lt 10, 3) := by decide +kernel
theorem dX6_says_20 : decode cX6_says 20 = .ok (.aload_n 0, 1) := by decide +kernel
theorem dX6_says_21 : decode cX6_says 21 = .ok (.iconst 0, 1) := by decide +kernel
theorem dX6_says_22 : decode cX6_says 22 = .ok (.iconst 1, 1) := by decide +kernel
theorem dX6_says_23 : decode cX6_says 23 = .ok (.invokevirtual 51, 3) := by decide +kernel
theorem dX6_says_26 : decode cX6_says 26 = .ok (.ireturn, 1) := by decide +kernel
theorem dX6_says_27 : decode cX6_says 27 = .ok (.aload_n 3, 1) := by decide +kernel
theorem dX6_says_28 : decode cX6_says 28 = .ok (.invokevirtual 79, 3) := by decide +kernel
theorem dX6_says_31 : decode cX6_says 31 = .ok (.ifCond .eq 10, 3) := by decide +kernel
theorem dX6_says_34 : decode cX6_says 34 = .ok (.aload_n 0, 1) := by decide +kernel
theorem dX6_says_35 : decode cX6_says 35 = .ok (.iconst 0, 1) := by decide +kernel
theorem dX6_says_36 : decode cX6_says 36 = .ok (.iconst 2, 1) := by decide +kernel
theorem dX6_says_37 : decode cX6_says 37 = .ok (.invokevirtual 51, 3) := by decide +kernel
theorem dX6_says_40 : decode cX6_says 40 = .ok (.ireturn, 1) := by decide +kernel
theorem dX6_says_41 : decode cX6_says 41 = .ok (.aload_n 0, 1) := by decide +kernel
theorem dX6_says_42 : decode cX6_says 42 = .ok (.getfield 10, 3) := by decide +kernel
theorem dX6_says_45 : decode cX6_says 45 = .ok (.aload_n 3, 1) := by decide +kernel
theorem dX6_says_46 : decode cX6_says 46 = .ok (.getfield 106, 3) := by decide +kernel
theorem dX6_says_49 : decode cX6_says 49 = .ok (.invokevirtual 94, 3) := by decide +kernel
theorem dX6_says_52 : decode cX6_says 52 = .ok (.astore 4, 2) := by decide +kernel
theorem dX6_says_54 : decode cX6_says 54 = .ok (.aload 4, 2) := by decide +kernel
theorem dX6_says_56 : decode cX6_says 56 = .ok (.ifnonnull 10, 3) := by decide +kernel
theorem dX6_says_59 : decode cX6_says 59 = .ok (.aload_n 0, 1) := by decide +kernel
theorem dX6_says_60 : decode cX6_says 60 = .ok (.iconst 0, 1) := by decide +kernel
theorem dX6_says_61 : decode cX6_says 61 = .ok (.iconst 3, 1) := by decide +kernel
theorem dX6_says_62 : decode cX6_says 62 = .ok (.invokevirtual 51, 3) := by decide +kernel
theorem dX6_says_65 : decode cX6_says 65 = .ok (.ireturn, 1) := by decide +kernel
theorem dX6_says_66 : decode cX6_says 66 = .ok (.aload 4, 2) := by decide +kernel
theorem dX6_says_68 : decode cX6_says 68 = .ok (.getfield 109, 3) := by decide +kernel
theorem dX6_says_71 : decode cX6_says 71 = .ok (.iload_n 2, 1) := by decide +kernel
theorem dX6_says_72 : decode cX6_says 72 = .ok (.invokestatic 114, 3) := by decide +kernel
theorem dX6_says_75 : decode cX6_says 75 = .ok (.ifCond .ne 10, 3) := by decide +kernel
theorem dX6_says_78 : decode cX6_says 78 = .ok (.aload_n 0, 1) := by decide +kernel
theorem dX6_says_79 : decode cX6_says 79 = .ok (.iconst 0, 1) := by decide +kernel
theorem dX6_says_80 : decode cX6_says 80 = .ok (.iconst 2, 1) := by decide +kernel
theorem dX6_says_81 : decode cX6_says 81 = .ok (.invokevirtual 51, 3) := by decide +kernel
theorem dX6_says_84 : decode cX6_says 84 = .ok (.ireturn, 1) := by decide +kernel
theorem dX6_says_85 : decode cX6_says 85 = .ok (.aload 4, 2) := by decide +kernel
theorem dX6_says_87 : decode cX6_says 87 = .ok (.iload_n 2, 1) := by decide +kernel
theorem dX6_says_88 : decode cX6_says 88 = .ok (.invokevirtual 117, 3) := by decide +kernel
theorem dX6_says_91 : decode cX6_says 91 = .ok (.ireturn, 1) := by decide +kernel
theorem dX6_citizen_0 : decode cX6_citizen 0 = .ok (.iload_n 1, 1) := by decide +kernel
theorem dX6_citizen_1 : decode cX6_citizen 1 = .ok (.ifCond .lt 9, 3) := by decide +kernel
theorem dX6_citizen_4 : decode cX6_citizen 4 = .ok (.iload_n 1, 1) := by decide +kernel
theorem dX6_citizen_5 : decode cX6_citizen 5 = .ok (.bipush 7, 2) := by decide +kernel
theorem dX6_citizen_7 : decode cX6_citizen 7 = .ok (.if_icmp .lt 10, 3) := by decide +kernel
theorem dX6_citizen_10 : decode cX6_citizen 10 = .ok (.aload_n 0, 1) := by decide +kernel
theorem dX6_citizen_11 : decode cX6_citizen 11 = .ok (.iconst 0, 1) := by decide +kernel
theorem dX6_citizen_12 : decode cX6_citizen 12 = .ok (.iconst 1, 1) := by decide +kernel
theorem dX6_citizen_13 : decode cX6_citizen 13 = .ok (.invokevirtual 51, 3) := by decide +kernel
theorem dX6_citizen_16 : decode cX6_citizen 16 = .ok (.ireturn, 1) := by decide +kernel
theorem dX6_citizen_17 : decode cX6_citizen 17 = .ok (.iload_n 2, 1) := by decide +kernel
theorem dX6_citizen_18 : decode cX6_citizen 18 = .ok (.iconst 0, 1) := by decide +kernel
theorem dX6_citizen_19 : decode cX6_citizen 19 = .ok (.bipush 9, 2) := by decide +kernel
theorem dX6_citizen_21 : decode cX6_citizen 21 = .ok (.invokestatic 120, 3) := by decide +kernel
theorem dX6_citizen_24 : decode cX6_citizen 24 = .ok (.ifCond .ne 24, 3) := by decide +kernel
theorem dX6_citizen_27 : decode cX6_citizen 27 = .ok (.iload_n 3, 1) := by decide +kernel
theorem dX6_citizen_28 : decode cX6_citizen 28 = .ok (.iconst 0, 1) := by decide +kernel
theorem dX6_citizen_29 : decode cX6_citizen 29 = .ok (.bipush 99, 2) := by decide +kernel
theorem dX6_citizen_31 : decode cX6_citizen 31 = .ok (.invokestatic 120, 3) := by decide +kernel
theorem dX6_citizen_34 : decode cX6_citizen 34 = .ok (.ifCond .ne 14, 3) := by decide +kernel
theorem dX6_citizen_37 : decode cX6_citizen 37 = .ok (.iload 4, 2) := by decide +kernel
theorem dX6_citizen_39 : decode cX6_citizen 39 = .ok (.iconst 0, 1) := by decide +kernel
theorem dX6_citizen_40 : decode cX6_citizen 40 = .ok (.bipush 20, 2) := by decide +kernel
theorem dX6_citizen_42 : decode cX6_citizen 42 = .ok (.invokestatic 120, 3) := by decide +kernel
theorem dX6_citizen_45 : decode cX6_citizen 45 = .ok (.ifCond .eq 11, 3) := by decide +kernel
theorem dX6_citizen_48 : decode cX6_citizen 48 = .ok (.aload_n 0, 1) := by decide +kernel
theorem dX6_citizen_49 : decode cX6_citizen 49 = .ok (.iconst 0, 1) := by decide +kernel
theorem dX6_citizen_50 : decode cX6_citizen 50 = .ok (.bipush 6, 2) := by decide +kernel
theorem dX6_citizen_52 : decode cX6_citizen 52 = .ok (.invokevirtual 51, 3) := by decide +kernel
theorem dX6_citizen_55 : decode cX6_citizen 55 = .ok (.ireturn, 1) := by decide +kernel
theorem dX6_citizen_56 : decode cX6_citizen 56 = .ok (.aload_n 0, 1) := by decide +kernel
theorem dX6_citizen_57 : decode cX6_citizen 57 = .ok (.getfield 10, 3) := by decide +kernel
theorem dX6_citizen_60 : decode cX6_citizen 60 = .ok (.iload_n 1, 1) := by decide +kernel
theorem dX6_citizen_61 : decode cX6_citizen 61 = .ok (.iload_n 2, 1) := by decide +kernel
theorem dX6_citizen_62 : decode cX6_citizen 62 = .ok (.iload_n 3, 1) := by decide +kernel
theorem dX6_citizen_63 : decode cX6_citizen 63 = .ok (.iload 4, 2) := by decide +kernel
theorem dX6_citizen_65 : decode cX6_citizen 65 = .ok (.invokevirtual 124, 3) := by decide +kernel
theorem dX6_citizen_68 : decode cX6_citizen 68 = .ok (.istore 5, 2) := by decide +kernel
theorem dX6_citizen_70 : decode cX6_citizen 70 = .ok (.iload 5, 2) := by decide +kernel
theorem dX6_citizen_72 : decode cX6_citizen 72 = .ok (.iconst (-1), 1) := by decide +kernel
theorem dX6_citizen_73 : decode cX6_citizen 73 = .ok (.if_icmp .ne 13, 3) := by decide +kernel
theorem dX6_citizen_76 : decode cX6_citizen 76 = .ok (.aload_n 0, 1) := by decide +kernel
theorem dX6_citizen_77 : decode cX6_citizen 77 = .ok (.iconst 0, 1) := by decide +kernel
theorem dX6_citizen_78 : decode cX6_citizen 78 = .ok (.bipush 7, 2) := by decide +kernel
theorem dX6_citizen_80 : decode cX6_citizen 80 = .ok (.invokevirtual 51, 3) := by decide +kernel
theorem dX6_citizen_83 : decode cX6_citizen 83 = .ok (.goto 5, 3) := by decide +kernel
theorem dX6_citizen_86 : decode cX6_citizen 86 = .ok (.iload 5, 2) := by decide +kernel
theorem dX6_citizen_88 : decode cX6_citizen 88 = .ok (.ireturn, 1) := by decide +kernel
theorem dX6_beggar_0 : decode cX6_beggar 0 = .ok (.iload_n 1, 1) := by decide +kernel
theorem dX6_beggar_1 : decode cX6_beggar 1 = .ok (.iconst 1, 1) := by decide +kernel
theorem dX6_beggar_2 : decode cX6_beggar 2 = .ok (.bipush 9, 2) := by decide +kernel
theorem dX6_beggar_4 : decode cX6_beggar 4 = .ok (.invokestatic 120, 3) := by decide +kernel
theorem dX6_beggar_7 : decode cX6_beggar 7 = .ok (.ifCond .ne 12, 3) := by decide +kernel
theorem dX6_beggar_10 : decode cX6_beggar 10 = .ok (.iload_n 2, 1) := by decide +kernel
theorem dX6_beggar_11 : decode cX6_beggar 11 = .ok (.iconst 0, 1) := by decide +kernel
theorem dX6_beggar_12 : decode cX6_beggar 12 = .ok (.iconst 4, 1) := by decide +kernel
theorem dX6_beggar_13 : decode cX6_beggar 13 = .ok (.invokestatic 120, 3) := by decide +kernel
theorem dX6_beggar_16 : decode cX6_beggar 16 = .ok (.ifCond .eq 11, 3) := by decide +kernel
theorem dX6_beggar_19 : decode cX6_beggar 19 = .ok (.aload_n 0, 1) := by decide +kernel
theorem dX6_beggar_20 : decode cX6_beggar 20 = .ok (.iconst 0, 1) := by decide +kernel
theorem dX6_beggar_21 : decode cX6_beggar 21 = .ok (.bipush 6, 2) := by decide +kernel
theorem dX6_beggar_23 : decode cX6_beggar 23 = .ok (.invokevirtual 51, 3) := by decide +kernel
theorem dX6_beggar_26 : decode cX6_beggar 26 = .ok (.ireturn, 1) := by decide +kernel
theorem dX6_beggar_27 : decode cX6_beggar 27 = .ok (.aload_n 0, 1) := by decide +kernel
theorem dX6_beggar_28 : decode cX6_beggar 28 = .ok (.getfield 10, 3) := by decide +kernel
theorem dX6_beggar_31 : decode cX6_beggar 31 = .ok (.iload_n 1, 1) := by decide +kernel
theorem dX6_beggar_32 : decode cX6_beggar 32 = .ok (.iload_n 2, 1) := by decide +kernel
theorem dX6_beggar_33 : decode cX6_beggar 33 = .ok (.invokevirtual 128, 3) := by decide +kernel
theorem dX6_beggar_36 : decode cX6_beggar 36 = .ok (.istore_n 3, 1) := by decide +kernel
theorem dX6_beggar_37 : decode cX6_beggar 37 = .ok (.iload_n 3, 1) := by decide +kernel
theorem dX6_beggar_38 : decode cX6_beggar 38 = .ok (.iconst (-1), 1) := by decide +kernel
theorem dX6_beggar_39 : decode cX6_beggar 39 = .ok (.if_icmp .ne 13, 3) := by decide +kernel
theorem dX6_beggar_42 : decode cX6_beggar 42 = .ok (.aload_n 0, 1) := by decide +kernel
theorem dX6_beggar_43 : decode cX6_beggar 43 = .ok (.iconst 0, 1) := by decide +kernel
theorem dX6_beggar_44 : decode cX6_beggar 44 = .ok (.bipush 7, 2) := by decide +kernel
theorem dX6_beggar_46 : decode cX6_beggar 46 = .ok (.invokevirtual 51, 3) := by decide +kernel
theorem dX6_beggar_49 : decode cX6_beggar 49 = .ok (.goto 4, 3) := by decide +kernel
theorem dX6_beggar_52 : decode cX6_beggar 52 = .ok (.iload_n 3, 1) := by decide +kernel
theorem dX6_beggar_53 : decode cX6_beggar 53 = .ok (.ireturn, 1) := by decide +kernel
theorem dX6_tell_0 : decode cX6_tell 0 = .ok (.aload_n 0, 1) := by decide +kernel
theorem dX6_tell_1 : decode cX6_tell 1 = .ok (.getfield 10, 3) := by decide +kernel
theorem dX6_tell_4 : decode cX6_tell 4 = .ok (.iload_n 1, 1) := by decide +kernel
theorem dX6_tell_5 : decode cX6_tell 5 = .ok (.invokevirtual 94, 3) := by decide +kernel
theorem dX6_tell_8 : decode cX6_tell 8 = .ok (.astore 4, 2) := by decide +kernel
theorem dX6_tell_10 : decode cX6_tell 10 = .ok (.aload 4, 2) := by decide +kernel
theorem dX6_tell_12 : decode cX6_tell 12 = .ok (.ifnonnull 10, 3) := by decide +kernel
theorem dX6_tell_15 : decode cX6_tell 15 = .ok (.aload_n 0, 1) := by decide +kernel
theorem dX6_tell_16 : decode cX6_tell 16 = .ok (.iconst 0, 1) := by decide +kernel
theorem dX6_tell_17 : decode cX6_tell 17 = .ok (.iconst 1, 1) := by decide +kernel
theorem dX6_tell_18 : decode cX6_tell 18 = .ok (.invokevirtual 51, 3) := by decide +kernel
theorem dX6_tell_21 : decode cX6_tell 21 = .ok (.ireturn, 1) := by decide +kernel
theorem dX6_tell_22 : decode cX6_tell 22 = .ok (.iload_n 3, 1) := by decide +kernel
theorem dX6_tell_23 : decode cX6_tell 23 = .ok (.iconst 0, 1) := by decide +kernel
theorem dX6_tell_24 : decode cX6_tell 24 = .ok (.iload_n 2, 1) := by decide +kernel
theorem dX6_tell_25 : decode cX6_tell 25 = .ok (.invokestatic 131, 3) := by decide +kernel
theorem dX6_tell_28 : decode cX6_tell 28 = .ok (.invokestatic 120, 3) := by decide +kernel
theorem dX6_tell_31 : decode cX6_tell 31 = .ok (.ifCond .eq 11, 3) := by decide +kernel
theorem dX6_tell_34 : decode cX6_tell 34 = .ok (.aload_n 0, 1) := by decide +kernel
theorem dX6_tell_35 : decode cX6_tell 35 = .ok (.iconst 0, 1) := by decide +kernel
theorem dX6_tell_36 : decode cX6_tell 36 = .ok (.bipush 6, 2) := by decide +kernel
theorem dX6_tell_38 : decode cX6_tell 38 = .ok (.invokevirtual 51, 3) := by decide +kernel
theorem dX6_tell_41 : decode cX6_tell 41 = .ok (.ireturn, 1) := by decide +kernel
theorem dX6_tell_42 : decode cX6_tell 42 = .ok (.aload 4, 2) := by decide +kernel
theorem dX6_tell_44 : decode cX6_tell 44 = .ok (.iload_n 2, 1) := by decide +kernel
theorem dX6_tell_45 : decode cX6_tell 45 = .ok (.iload_n 3, 1) := by decide +kernel
theorem dX6_tell_46 : decode cX6_tell 46 = .ok (.invokevirtual 134, 3) := by decide +kernel
theorem dX6_tell_49 : decode cX6_tell 49 = .ok (.ireturn, 1) := by decide +kernel
theorem dX6_post_0 : decode cX6_post 0 = .ok (.aload_n 0, 1) := by decide +kernel
theorem dX6_post_1 : decode cX6_post 1 = .ok (.getfield 10, 3) := by decide +kernel
theorem dX6_post_4 : decode cX6_post 4 = .ok (.iload_n 1, 1) := by decide +kernel
theorem dX6_post_5 : decode cX6_post 5 = .ok (.invokevirtual 137, 3) := by decide +kernel
theorem dX6_post_8 : decode cX6_post 8 = .ok (.astore_n 3, 1) := by decide +kernel
theorem dX6_post_9 : decode cX6_post 9 = .ok (.aload_n 3, 1) := by decide +kernel
theorem dX6_post_10 : decode cX6_post 10 = .ok (.ifnonnull 10, 3) := by decide +kernel
theorem dX6_post_13 : decode cX6_post 13 = .ok (.aload_n 0, 1) := by decide +kernel
theorem dX6_post_14 : decode cX6_post 14 = .ok (.iconst 0, 1) := by decide +kernel
theorem dX6_post_15 : decode cX6_post 15 = .ok (.iconst 1, 1) := by decide +kernel
theorem dX6_post_16 : decode cX6_post 16 = .ok (.invokevirtual 51, 3) := by decide +kernel
theorem dX6_post_19 : decode cX6_post 19 = .ok (.ireturn, 1) := by decide +kernel
theorem dX6_post_20 : decode cX6_post 20 = .ok (.aload_n 3, 1) := by decide +kernel
theorem dX6_post_21 : decode cX6_post 21 = .ok (.getfield 141, 3) := by decide +kernel
theorem dX6_post_24 : decode cX6_post 24 = .ok (.ifCond .eq 7, 3) := by decide +kernel
theorem dX6_post_27 : decode cX6_post 27 = .ok (.iconst 1, 1) := by decide +kernel
theorem dX6_post_28 : decode cX6_post 28 = .ok (.goto 4, 3) := by decide +kernel
theorem dX6_post_31 : decode cX6_post 31 = .ok (.iconst 0, 1) := by decide +kernel
theorem dX6_post_32 : decode cX6_post 32 = .ok (.istore 4, 2) := by decide +kernel
theorem dX6_post_34 : decode cX6_post 34 = .ok (.aload_n 3, 1) := by decide +kernel
theorem dX6_post_35 : decode cX6_post 35 = .ok (.iload_n 2, 1) := by decide +kernel
theorem dX6_post_36 : decode cX6_post 36 = .ok (.putfield 141, 3) := by decide +kernel
theorem dX6_post_39 : decode cX6_post 39 = .ok (.iload 4, 2) := by decide +kernel
theorem dX6_post_41 : decode cX6_post 41 = .ok (.ireturn, 1) := by decide +kernel
theorem dX6_citizenOf_0 : decode cX6_citizenOf 0 = .ok (.aload_n 0, 1) := by decide +kernel
theorem dX6_citizenOf_1 : decode cX6_citizenOf 1 = .ok (.getfield 10, 3) := by decide +kernel
theorem dX6_citizenOf_4 : decode cX6_citizenOf 4 = .ok (.iload_n 1, 1) := by decide +kernel
theorem dX6_citizenOf_5 : decode cX6_citizenOf 5 = .ok (.invokevirtual 94, 3) := by decide +kernel
theorem dX6_citizenOf_8 : decode cX6_citizenOf 8 = .ok (.astore_n 3, 1) := by decide +kernel
theorem dX6_citizenOf_9 : decode cX6_citizenOf 9 = .ok (.aload_n 3, 1) := by decide +kernel
theorem dX6_citizenOf_10 : decode cX6_citizenOf 10 = .ok (.ifnonnull 10, 3) := by decide +kernel
theorem dX6_citizenOf_13 : decode cX6_citizenOf 13 = .ok (.aload_n 0, 1) := by decide +kernel
theorem dX6_citizenOf_14 : decode cX6_citizenOf 14 = .ok (.iconst 0, 1) := by decide +kernel
theorem dX6_citizenOf_15 : decode cX6_citizenOf 15 = .ok (.iconst 5, 1) := by decide +kernel
theorem dX6_citizenOf_16 : decode cX6_citizenOf 16 = .ok (.invokevirtual 51, 3) := by decide +kernel
theorem dX6_citizenOf_19 : decode cX6_citizenOf 19 = .ok (.ireturn, 1) := by decide +kernel
theorem dX6_citizenOf_20 : decode cX6_citizenOf 20 = .ok (.iload_n 2, 1) := by decide +kernel
theorem dX6_citizenOf_21 : decode cX6_citizenOf 21 = .ok (.tableswitch 95 0 7 #[47, 52, 57, 62, 67, 72, 77, 90], 47) := by decide +kernel
theorem dX6_citizenOf_68 : decode cX6_citizenOf 68 = .ok (.aload_n 3, 1) := by decide +kernel
theorem dX6_citizenOf_69 : decode cX6_citizenOf 69 = .ok (.getfield 109, 3) := by decide +kernel
theorem dX6_citizenOf_72 : decode cX6_citizenOf 72 = .ok (.ireturn, 1) := by decide +kernel
theorem dX6_citizenOf_73 : decode cX6_citizenOf 73 = .ok (.aload_n 3, 1) := by decide +kernel
theorem dX6_citizenOf_74 : decode cX6_citizenOf 74 = .ok (.getfield 147, 3) := by decide +kernel
theorem dX6_citizenOf_77 : decode cX6_citizenOf 77 = .ok (.ireturn, 1) := by decide +kernel
theorem dX6_citizenOf_78 : decode cX6_citizenOf 78 = .ok (.aload_n 3, 1) := by decide +kernel
theorem dX6_citizenOf_79 : decode cX6_citizenOf 79 = .ok (.getfield 150, 3) := by decide +kernel
theorem dX6_citizenOf_82 : decode cX6_citizenOf 82 = .ok (.ireturn, 1) := by decide +kernel
theorem dX6_citizenOf_83 : decode cX6_citizenOf 83 = .ok (.aload_n 3, 1) := by decide +kernel
theorem dX6_citizenOf_84 : decode cX6_citizenOf 84 = .ok (.getfield 153, 3) := by decide +kernel
theorem dX6_citizenOf_87 : decode cX6_citizenOf 87 = .ok (.ireturn, 1) := by decide +kernel
theorem dX6_citizenOf_88 : decode cX6_citizenOf 88 = .ok (.aload_n 3, 1) := by decide +kernel
theorem dX6_citizenOf_89 : decode cX6_citizenOf 89 = .ok (.getfield 156, 3) := by decide +kernel
theorem dX6_citizenOf_92 : decode cX6_citizenOf 92 = .ok (.ireturn, 1) := by decide +kernel
theorem dX6_citizenOf_93 : decode cX6_citizenOf 93 = .ok (.aload_n 3, 1) := by decide +kernel
theorem dX6_citizenOf_94 : decode cX6_citizenOf 94 = .ok (.getfield 159, 3) := by decide +kernel
theorem dX6_citizenOf_97 : decode cX6_citizenOf 97 = .ok (.ireturn, 1) := by decide +kernel
theorem dX6_citizenOf_98 : decode cX6_citizenOf 98 = .ok (.aload_n 3, 1) := by decide +kernel
theorem dX6_citizenOf_99 : decode cX6_citizenOf 99 = .ok (.getfield 162, 3) := by decide +kernel
theorem dX6_citizenOf_102 : decode cX6_citizenOf 102 = .ok (.ifCond .eq 7, 3) := by decide +kernel
theorem dX6_citizenOf_105 : decode cX6_citizenOf 105 = .ok (.iconst 1, 1) := by decide +kernel
theorem dX6_citizenOf_106 : decode cX6_citizenOf 106 = .ok (.goto 4, 3) := by decide +kernel
theorem dX6_citizenOf_109 : decode cX6_citizenOf 109 = .ok (.iconst 0, 1) := by decide +kernel
theorem dX6_citizenOf_110 : decode cX6_citizenOf 110 = .ok (.ireturn, 1) := by decide +kernel
theorem dX6_citizenOf_111 : decode cX6_citizenOf 111 = .ok (.aload_n 3, 1) := by decide +kernel
theorem dX6_citizenOf_112 : decode cX6_citizenOf 112 = .ok (.invokevirtual 165, 3) := by decide +kernel
theorem dX6_citizenOf_115 : decode cX6_citizenOf 115 = .ok (.ireturn, 1) := by decide +kernel
theorem dX6_citizenOf_116 : decode cX6_citizenOf 116 = .ok (.aload_n 0, 1) := by decide +kernel
theorem dX6_citizenOf_117 : decode cX6_citizenOf 117 = .ok (.iconst 0, 1) := by decide +kernel
theorem dX6_citizenOf_118 : decode cX6_citizenOf 118 = .ok (.iconst 5, 1) := by decide +kernel
theorem dX6_citizenOf_119 : decode cX6_citizenOf 119 = .ok (.invokevirtual 51, 3) := by decide +kernel
theorem dX6_citizenOf_122 : decode cX6_citizenOf 122 = .ok (.ireturn, 1) := by decide +kernel
theorem dX6_beggarOf_0 : decode cX6_beggarOf 0 = .ok (.aload_n 0, 1) := by decide +kernel
theorem dX6_beggarOf_1 : decode cX6_beggarOf 1 = .ok (.getfield 10, 3) := by decide +kernel
theorem dX6_beggarOf_4 : decode cX6_beggarOf 4 = .ok (.iload_n 1, 1) := by decide +kernel
theorem dX6_beggarOf_5 : decode cX6_beggarOf 5 = .ok (.invokevirtual 137, 3) := by decide +kernel
theorem dX6_beggarOf_8 : decode cX6_beggarOf 8 = .ok (.astore_n 3, 1) := by decide +kernel
theorem dX6_beggarOf_9 : decode cX6_beggarOf 9 = .ok (.aload_n 3, 1) := by decide +kernel
theorem dX6_beggarOf_10 : decode cX6_beggarOf 10 = .ok (.ifnonnull 11, 3) := by decide +kernel
theorem dX6_beggarOf_13 : decode cX6_beggarOf 13 = .ok (.aload_n 0, 1) := by decide +kernel
theorem dX6_beggarOf_14 : decode cX6_beggarOf 14 = .ok (.bipush 10, 2) := by decide +kernel
theorem dX6_beggarOf_16 : decode cX6_beggarOf 16 = .ok (.iconst 5, 1) := by decide +kernel
theorem dX6_beggarOf_17 : decode cX6_beggarOf 17 = .ok (.invokevirtual 51, 3) := by decide +kernel
theorem dX6_beggarOf_20 : decode cX6_beggarOf 20 = .ok (.ireturn, 1) := by decide +kernel
theorem dX6_beggarOf_21 : decode cX6_beggarOf 21 = .ok (.iload_n 2, 1) := by decide +kernel
theorem dX6_beggarOf_22 : decode cX6_beggarOf 22 = .ok (.tableswitch 67 0 4 #[34, 39, 44, 49, 54], 34) := by decide +kernel
theorem dX6_beggarOf_56 : decode cX6_beggarOf 56 = .ok (.aload_n 3, 1) := by decide +kernel
theorem dX6_beggarOf_57 : decode cX6_beggarOf 57 = .ok (.getfield 169, 3) := by decide +kernel
theorem dX6_beggarOf_60 : decode cX6_beggarOf 60 = .ok (.ireturn, 1) := by decide +kernel
theorem dX6_beggarOf_61 : decode cX6_beggarOf 61 = .ok (.aload_n 3, 1) := by decide +kernel
theorem dX6_beggarOf_62 : decode cX6_beggarOf 62 = .ok (.getfield 172, 3) := by decide +kernel
theorem dX6_beggarOf_65 : decode cX6_beggarOf 65 = .ok (.ireturn, 1) := by decide +kernel
theorem dX6_beggarOf_66 : decode cX6_beggarOf 66 = .ok (.aload_n 3, 1) := by decide +kernel
theorem dX6_beggarOf_67 : decode cX6_beggarOf 67 = .ok (.getfield 175, 3) := by decide +kernel
theorem dX6_beggarOf_70 : decode cX6_beggarOf 70 = .ok (.ireturn, 1) := by decide +kernel
theorem dX6_beggarOf_71 : decode cX6_beggarOf 71 = .ok (.aload_n 3, 1) := by decide +kernel
theorem dX6_beggarOf_72 : decode cX6_beggarOf 72 = .ok (.getfield 178, 3) := by decide +kernel
theorem dX6_beggarOf_75 : decode cX6_beggarOf 75 = .ok (.ireturn, 1) := by decide +kernel
theorem dX6_beggarOf_76 : decode cX6_beggarOf 76 = .ok (.aload_n 3, 1) := by decide +kernel
theorem dX6_beggarOf_77 : decode cX6_beggarOf 77 = .ok (.getfield 141, 3) := by decide +kernel
theorem dX6_beggarOf_80 : decode cX6_beggarOf 80 = .ok (.ifCond .eq 7, 3) := by decide +kernel
theorem dX6_beggarOf_83 : decode cX6_beggarOf 83 = .ok (.iconst 1, 1) := by decide +kernel
theorem dX6_beggarOf_84 : decode cX6_beggarOf 84 = .ok (.goto 4, 3) := by decide +kernel
theorem dX6_beggarOf_87 : decode cX6_beggarOf 87 = .ok (.iconst 0, 1) := by decide +kernel
theorem dX6_beggarOf_88 : decode cX6_beggarOf 88 = .ok (.ireturn, 1) := by decide +kernel
theorem dX6_beggarOf_89 : decode cX6_beggarOf 89 = .ok (.aload_n 0, 1) := by decide +kernel
theorem dX6_beggarOf_90 : decode cX6_beggarOf 90 = .ok (.bipush 10, 2) := by decide +kernel
theorem dX6_beggarOf_92 : decode cX6_beggarOf 92 = .ok (.iconst 5, 1) := by decide +kernel
theorem dX6_beggarOf_93 : decode cX6_beggarOf 93 = .ok (.invokevirtual 51, 3) := by decide +kernel
theorem dX6_beggarOf_96 : decode cX6_beggarOf 96 = .ok (.ireturn, 1) := by decide +kernel
theorem dX6_city_0 : decode cX6_city 0 = .ok (.aload_n 0, 1) := by decide +kernel
theorem dX6_city_1 : decode cX6_city 1 = .ok (.iload_n 1, 1) := by decide +kernel
theorem dX6_city_2 : decode cX6_city 2 = .ok (.invokevirtual 59, 3) := by decide +kernel
theorem dX6_city_5 : decode cX6_city 5 = .ok (.istore_n 2, 1) := by decide +kernel
theorem dX6_city_6 : decode cX6_city 6 = .ok (.iload_n 2, 1) := by decide +kernel
theorem dX6_city_7 : decode cX6_city 7 = .ok (.ifCond .eq 10, 3) := by decide +kernel
theorem dX6_city_10 : decode cX6_city 10 = .ok (.aload_n 0, 1) := by decide +kernel
theorem dX6_city_11 : decode cX6_city 11 = .ok (.iconst 0, 1) := by decide +kernel
theorem dX6_city_12 : decode cX6_city 12 = .ok (.iload_n 2, 1) := by decide +kernel
theorem dX6_city_13 : decode cX6_city 13 = .ok (.invokevirtual 51, 3) := by decide +kernel
theorem dX6_city_16 : decode cX6_city 16 = .ok (.ireturn, 1) := by decide +kernel
theorem dX6_city_17 : decode cX6_city 17 = .ok (.aload_n 0, 1) := by decide +kernel
theorem dX6_city_18 : decode cX6_city 18 = .ok (.iload_n 1, 1) := by decide +kernel
theorem dX6_city_19 : decode cX6_city 19 = .ok (.invokevirtual 47, 3) := by decide +kernel
theorem dX6_city_22 : decode cX6_city 22 = .ok (.astore_n 3, 1) := by decide +kernel
theorem dX6_city_23 : decode cX6_city 23 = .ok (.aload_n 3, 1) := by decide +kernel
theorem dX6_city_24 : decode cX6_city 24 = .ok (.ifnonnull 10, 3) := by decide +kernel
theorem dX6_city_27 : decode cX6_city 27 = .ok (.aload_n 0, 1) := by decide +kernel
theorem dX6_city_28 : decode cX6_city 28 = .ok (.iconst 0, 1) := by decide +kernel
theorem dX6_city_29 : decode cX6_city 29 = .ok (.iconst 1, 1) := by decide +kernel
theorem dX6_city_30 : decode cX6_city 30 = .ok (.invokevirtual 51, 3) := by decide +kernel
theorem dX6_city_33 : decode cX6_city 33 = .ok (.ireturn, 1) := by decide +kernel
theorem dX6_city_34 : decode cX6_city 34 = .ok (.aload_n 0, 1) := by decide +kernel
theorem dX6_city_35 : decode cX6_city 35 = .ok (.getfield 16, 3) := by decide +kernel
theorem dX6_city_38 : decode cX6_city 38 = .ok (.aload_n 0, 1) := by decide +kernel
theorem dX6_city_39 : decode cX6_city 39 = .ok (.getfield 10, 3) := by decide +kernel
theorem dX6_city_42 : decode cX6_city 42 = .ok (.invokevirtual 181, 3) := by decide +kernel
theorem dX6_city_45 : decode cX6_city 45 = .ok (.aload_n 0, 1) := by decide +kernel
theorem dX6_city_46 : decode cX6_city 46 = .ok (.getfield 35, 3) := by decide +kernel
theorem dX6_city_49 : decode cX6_city 49 = .ok (.aload_n 3, 1) := by decide +kernel
theorem dX6_city_50 : decode cX6_city 50 = .ok (.aload_n 0, 1) := by decide +kernel
theorem dX6_city_51 : decode cX6_city 51 = .ok (.getfield 16, 3) := by decide +kernel
theorem dX6_city_54 : decode cX6_city 54 = .ok (.invokevirtual 185, 3) := by decide +kernel
theorem dX6_city_57 : decode cX6_city 57 = .ok (.istore 4, 2) := by decide +kernel
theorem dX6_city_59 : decode cX6_city 59 = .ok (.iload 4, 2) := by decide +kernel
theorem dX6_city_61 : decode cX6_city 61 = .ok (.iconst (-1), 1) := by decide +kernel
theorem dX6_city_62 : decode cX6_city 62 = .ok (.if_icmp .ne 11, 3) := by decide +kernel
theorem dX6_city_65 : decode cX6_city 65 = .ok (.aload_n 0, 1) := by decide +kernel
theorem dX6_city_66 : decode cX6_city 66 = .ok (.iconst 0, 1) := by decide +kernel
theorem dX6_city_67 : decode cX6_city 67 = .ok (.bipush 6, 2) := by decide +kernel
theorem dX6_city_69 : decode cX6_city 69 = .ok (.invokevirtual 51, 3) := by decide +kernel
theorem dX6_city_72 : decode cX6_city 72 = .ok (.ireturn, 1) := by decide +kernel
theorem dX6_city_73 : decode cX6_city 73 = .ok (.aload_n 0, 1) := by decide +kernel
theorem dX6_city_74 : decode cX6_city 74 = .ok (.getfield 10, 3) := by decide +kernel
theorem dX6_city_77 : decode cX6_city 77 = .ok (.aload_n 0, 1) := by decide +kernel
theorem dX6_city_78 : decode cX6_city 78 = .ok (.getfield 16, 3) := by decide +kernel
theorem dX6_city_81 : decode cX6_city 81 = .ok (.invokevirtual 181, 3) := by decide +kernel
theorem dX6_city_84 : decode cX6_city 84 = .ok (.iload 4, 2) := by decide +kernel
theorem dX6_city_86 : decode cX6_city 86 = .ok (.ireturn, 1) := by decide +kernel
theorem dX6_fault_0 : decode cX6_fault 0 = .ok (.aload_n 0, 1) := by decide +kernel
theorem dX6_fault_1 : decode cX6_fault 1 = .ok (.getfield 35, 3) := by decide +kernel
theorem dX6_fault_4 : decode cX6_fault 4 = .ok (.getfield 189, 3) := by decide +kernel
theorem dX6_fault_7 : decode cX6_fault 7 = .ok (.ireturn, 1) := by decide +kernel
theorem dX6_picks_0 : decode cX6_picks 0 = .ok (.aload_n 0, 1) := by decide +kernel
theorem dX6_picks_1 : decode cX6_picks 1 = .ok (.getfield 10, 3) := by decide +kernel
theorem dX6_picks_4 : decode cX6_picks 4 = .ok (.iload_n 1, 1) := by decide +kernel
theorem dX6_picks_5 : decode cX6_picks 5 = .ok (.invokevirtual 137, 3) := by decide +kernel
theorem dX6_picks_8 : decode cX6_picks 8 = .ok (.astore_n 2, 1) := by decide +kernel
theorem dX6_picks_9 : decode cX6_picks 9 = .ok (.aload_n 2, 1) := by decide +kernel
theorem dX6_picks_10 : decode cX6_picks 10 = .ok (.ifnonnull 11, 3) := by decide +kernel
theorem dX6_picks_13 : decode cX6_picks 13 = .ok (.aload_n 0, 1) := by decide +kernel
theorem dX6_picks_14 : decode cX6_picks 14 = .ok (.bipush 10, 2) := by decide +kernel
theorem dX6_picks_16 : decode cX6_picks 16 = .ok (.iconst 1, 1) := by decide +kernel
theorem dX6_picks_17 : decode cX6_picks 17 = .ok (.invokevirtual 51, 3) := by decide +kernel
theorem dX6_picks_20 : decode cX6_picks 20 = .ok (.ireturn, 1) := by decide +kernel
theorem dX6_picks_21 : decode cX6_picks 21 = .ok (.aload_n 0, 1) := by decide +kernel
theorem dX6_picks_22 : decode cX6_picks 22 = .ok (.getfield 10, 3) := by decide +kernel
theorem dX6_picks_25 : decode cX6_picks 25 = .ok (.invokevirtual 192, 3) := by decide +kernel
theorem dX6_picks_28 : decode cX6_picks 28 = .ok (.aload_n 2, 1) := by decide +kernel
theorem dX6_picks_29 : decode cX6_picks 29 = .ok (.getfield 195, 3) := by decide +kernel
theorem dX6_picks_32 : decode cX6_picks 32 = .ok (.ireturn, 1) := by decide +kernel
theorem dX6_kept_0 : decode cX6_kept 0 = .ok (.aload_n 0, 1) := by decide +kernel
theorem dX6_kept_1 : decode cX6_kept 1 = .ok (.getfield 10, 3) := by decide +kernel
theorem dX6_kept_4 : decode cX6_kept 4 = .ok (.invokevirtual 192, 3) := by decide +kernel
theorem dX6_kept_7 : decode cX6_kept 7 = .ok (.aload_n 0, 1) := by decide +kernel
theorem dX6_kept_8 : decode cX6_kept 8 = .ok (.getfield 10, 3) := by decide +kernel
theorem dX6_kept_11 : decode cX6_kept 11 = .ok (.invokevirtual 198, 3) := by decide +kernel
theorem dX6_kept_14 : decode cX6_kept 14 = .ok (.ireturn, 1) := by decide +kernel
theorem dX6_picked_0 : decode cX6_picked 0 = .ok (.aload_n 0, 1) := by decide +kernel
theorem dX6_picked_1 : decode cX6_picked 1 = .ok (.getfield 10, 3) := by decide +kernel
theorem dX6_picked_4 : decode cX6_picked 4 = .ok (.iload_n 1, 1) := by decide +kernel
theorem dX6_picked_5 : decode cX6_picked 5 = .ok (.invokevirtual 94, 3) := by decide +kernel
theorem dX6_picked_8 : decode cX6_picked 8 = .ok (.astore_n 3, 1) := by decide +kernel
theorem dX6_picked_9 : decode cX6_picked 9 = .ok (.aload_n 3, 1) := by decide +kernel
theorem dX6_picked_10 : decode cX6_picked 10 = .ok (.ifnonnull 10, 3) := by decide +kernel
theorem dX6_picked_13 : decode cX6_picked 13 = .ok (.aload_n 0, 1) := by decide +kernel
theorem dX6_picked_14 : decode cX6_picked 14 = .ok (.iconst 0, 1) := by decide +kernel
theorem dX6_picked_15 : decode cX6_picked 15 = .ok (.iconst 1, 1) := by decide +kernel
theorem dX6_picked_16 : decode cX6_picked 16 = .ok (.invokevirtual 51, 3) := by decide +kernel
theorem dX6_picked_19 : decode cX6_picked 19 = .ok (.ireturn, 1) := by decide +kernel
theorem dX6_picked_20 : decode cX6_picked 20 = .ok (.iload_n 2, 1) := by decide +kernel
theorem dX6_picked_21 : decode cX6_picked 21 = .ok (.iconst 0, 1) := by decide +kernel
theorem dX6_picked_22 : decode cX6_picked 22 = .ok (.iconst 1, 1) := by decide +kernel
theorem dX6_picked_23 : decode cX6_picked 23 = .ok (.invokestatic 120, 3) := by decide +kernel
theorem dX6_picked_26 : decode cX6_picked 26 = .ok (.ifCond .eq 10, 3) := by decide +kernel
theorem dX6_picked_29 : decode cX6_picked 29 = .ok (.aload_n 0, 1) := by decide +kernel
theorem dX6_picked_30 : decode cX6_picked 30 = .ok (.iconst 0, 1) := by decide +kernel
theorem dX6_picked_31 : decode cX6_picked 31 = .ok (.iconst 5, 1) := by decide +kernel
theorem dX6_picked_32 : decode cX6_picked 32 = .ok (.invokevirtual 51, 3) := by decide +kernel
theorem dX6_picked_35 : decode cX6_picked 35 = .ok (.ireturn, 1) := by decide +kernel
theorem dX6_picked_36 : decode cX6_picked 36 = .ok (.aload_n 0, 1) := by decide +kernel
theorem dX6_picked_37 : decode cX6_picked 37 = .ok (.getfield 10, 3) := by decide +kernel
theorem dX6_picked_40 : decode cX6_picked 40 = .ok (.invokevirtual 192, 3) := by decide +kernel
theorem dX6_picked_43 : decode cX6_picked 43 = .ok (.iload_n 2, 1) := by decide +kernel
theorem dX6_picked_44 : decode cX6_picked 44 = .ok (.ifCond .ne 10, 3) := by decide +kernel
theorem dX6_picked_47 : decode cX6_picked 47 = .ok (.aload_n 3, 1) := by decide +kernel
theorem dX6_picked_48 : decode cX6_picked 48 = .ok (.getfield 201, 3) := by decide +kernel
theorem dX6_picked_51 : decode cX6_picked 51 = .ok (.goto 7, 3) := by decide +kernel
theorem dX6_picked_54 : decode cX6_picked 54 = .ok (.aload_n 3, 1) := by decide +kernel
theorem dX6_picked_55 : decode cX6_picked 55 = .ok (.getfield 204, 3) := by decide +kernel
theorem dX6_picked_58 : decode cX6_picked 58 = .ok (.ireturn, 1) := by decide +kernel
theorem dX6_wear_0 : decode cX6_wear 0 = .ok (.aload_n 0, 1) := by decide +kernel
theorem dX6_wear_1 : decode cX6_wear 1 = .ok (.getfield 10, 3) := by decide +kernel
theorem dX6_wear_4 : decode cX6_wear 4 = .ok (.iload_n 1, 1) := by decide +kernel
theorem dX6_wear_5 : decode cX6_wear 5 = .ok (.invokevirtual 94, 3) := by decide +kernel
theorem dX6_wear_8 : decode cX6_wear 8 = .ok (.ifnonnull 10, 3) := by decide +kernel
theorem dX6_wear_11 : decode cX6_wear 11 = .ok (.aload_n 0, 1) := by decide +kernel
theorem dX6_wear_12 : decode cX6_wear 12 = .ok (.iconst 0, 1) := by decide +kernel
theorem dX6_wear_13 : decode cX6_wear 13 = .ok (.iconst 1, 1) := by decide +kernel
theorem dX6_wear_14 : decode cX6_wear 14 = .ok (.invokevirtual 51, 3) := by decide +kernel
theorem dX6_wear_17 : decode cX6_wear 17 = .ok (.ireturn, 1) := by decide +kernel
theorem dX6_wear_18 : decode cX6_wear 18 = .ok (.iload_n 2, 1) := by decide +kernel
theorem dX6_wear_19 : decode cX6_wear 19 = .ok (.iconst 0, 1) := by decide +kernel
theorem dX6_wear_20 : decode cX6_wear 20 = .ok (.bipush 40, 2) := by decide +kernel
theorem dX6_wear_22 : decode cX6_wear 22 = .ok (.invokestatic 120, 3) := by decide +kernel
theorem dX6_wear_25 : decode cX6_wear 25 = .ok (.ifCond .eq 11, 3) := by decide +kernel
theorem dX6_wear_28 : decode cX6_wear 28 = .ok (.aload_n 0, 1) := by decide +kernel
theorem dX6_wear_29 : decode cX6_wear 29 = .ok (.iconst 0, 1) := by decide +kernel
theorem dX6_wear_30 : decode cX6_wear 30 = .ok (.bipush 6, 2) := by decide +kernel
theorem dX6_wear_32 : decode cX6_wear 32 = .ok (.invokevirtual 51, 3) := by decide +kernel
theorem dX6_wear_35 : decode cX6_wear 35 = .ok (.ireturn, 1) := by decide +kernel
theorem dX6_wear_36 : decode cX6_wear 36 = .ok (.aload_n 0, 1) := by decide +kernel
theorem dX6_wear_37 : decode cX6_wear 37 = .ok (.getfield 16, 3) := by decide +kernel
theorem dX6_wear_40 : decode cX6_wear 40 = .ok (.aload_n 0, 1) := by decide +kernel
theorem dX6_wear_41 : decode cX6_wear 41 = .ok (.getfield 10, 3) := by decide +kernel
theorem dX6_wear_44 : decode cX6_wear 44 = .ok (.invokevirtual 181, 3) := by decide +kernel
theorem dX6_wear_47 : decode cX6_wear 47 = .ok (.aload_n 0, 1) := by decide +kernel
theorem dX6_wear_48 : decode cX6_wear 48 = .ok (.getfield 16, 3) := by decide +kernel
theorem dX6_wear_51 : decode cX6_wear 51 = .ok (.iload_n 2, 1) := by decide +kernel
theorem dX6_wear_52 : decode cX6_wear 52 = .ok (.invokevirtual 207, 3) := by decide +kernel
theorem dX6_wear_55 : decode cX6_wear 55 = .ok (.pop, 1) := by decide +kernel
theorem dX6_wear_56 : decode cX6_wear 56 = .ok (.aload_n 0, 1) := by decide +kernel
theorem dX6_wear_57 : decode cX6_wear 57 = .ok (.getfield 16, 3) := by decide +kernel
theorem dX6_wear_60 : decode cX6_wear 60 = .ok (.iload_n 1, 1) := by decide +kernel
theorem dX6_wear_61 : decode cX6_wear 61 = .ok (.invokevirtual 94, 3) := by decide +kernel
theorem dX6_wear_64 : decode cX6_wear 64 = .ok (.astore_n 3, 1) := by decide +kernel
theorem dX6_wear_65 : decode cX6_wear 65 = .ok (.aload_n 3, 1) := by decide +kernel
theorem dX6_wear_66 : decode cX6_wear 66 = .ok (.ifnonnull 7, 3) := by decide +kernel
theorem dX6_wear_69 : decode cX6_wear 69 = .ok (.iconst (-1), 1) := by decide +kernel
theorem dX6_wear_70 : decode cX6_wear 70 = .ok (.goto 7, 3) := by decide +kernel
theorem dX6_wear_73 : decode cX6_wear 73 = .ok (.aload_n 3, 1) := by decide +kernel
theorem dX6_wear_74 : decode cX6_wear 74 = .ok (.getfield 156, 3) := by decide +kernel
theorem dX6_wear_77 : decode cX6_wear 77 = .ok (.ireturn, 1) := by decide +kernel
theorem dX6_unkept_0 : decode cX6_unkept 0 = .ok (.iload_n 2, 1) := by decide +kernel
theorem dX6_unkept_1 : decode cX6_unkept 1 = .ok (.iconst 0, 1) := by decide +kernel
theorem dX6_unkept_2 : decode cX6_unkept 2 = .ok (.iconst 1, 1) := by decide +kernel
theorem dX6_unkept_3 : decode cX6_unkept 3 = .ok (.invokestatic 120, 3) := by decide +kernel
theorem dX6_unkept_6 : decode cX6_unkept 6 = .ok (.ifCond .eq 11, 3) := by decide +kernel
theorem dX6_unkept_9 : decode cX6_unkept 9 = .ok (.aload_n 0, 1) := by decide +kernel
theorem dX6_unkept_10 : decode cX6_unkept 10 = .ok (.bipush 10, 2) := by decide +kernel
theorem dX6_unkept_12 : decode cX6_unkept 12 = .ok (.iconst 5, 1) := by decide +kernel
theorem dX6_unkept_13 : decode cX6_unkept 13 = .ok (.invokevirtual 51, 3) := by decide +kernel
theorem dX6_unkept_16 : decode cX6_unkept 16 = .ok (.ireturn, 1) := by decide +kernel
theorem dX6_unkept_17 : decode cX6_unkept 17 = .ok (.iload_n 1, 1) := by decide +kernel
theorem dX6_unkept_18 : decode cX6_unkept 18 = .ok (.iconst 0, 1) := by decide +kernel
theorem dX6_unkept_19 : decode cX6_unkept 19 = .ok (.bipush 40, 2) := by decide +kernel
theorem dX6_unkept_21 : decode cX6_unkept 21 = .ok (.invokestatic 120, 3) := by decide +kernel
theorem dX6_unkept_24 : decode cX6_unkept 24 = .ok (.ifCond .eq 12, 3) := by decide +kernel
theorem dX6_unkept_27 : decode cX6_unkept 27 = .ok (.aload_n 0, 1) := by decide +kernel
theorem dX6_unkept_28 : decode cX6_unkept 28 = .ok (.bipush 10, 2) := by decide +kernel
theorem dX6_unkept_30 : decode cX6_unkept 30 = .ok (.bipush 6, 2) := by decide +kernel
theorem dX6_unkept_32 : decode cX6_unkept 32 = .ok (.invokevirtual 51, 3) := by decide +kernel
theorem dX6_unkept_35 : decode cX6_unkept 35 = .ok (.ireturn, 1) := by decide +kernel
theorem dX6_unkept_36 : decode cX6_unkept 36 = .ok (.aload_n 0, 1) := by decide +kernel
theorem dX6_unkept_37 : decode cX6_unkept 37 = .ok (.getfield 16, 3) := by decide +kernel
theorem dX6_unkept_40 : decode cX6_unkept 40 = .ok (.aload_n 0, 1) := by decide +kernel
theorem dX6_unkept_41 : decode cX6_unkept 41 = .ok (.getfield 10, 3) := by decide +kernel
theorem dX6_unkept_44 : decode cX6_unkept 44 = .ok (.invokevirtual 181, 3) := by decide +kernel
theorem dX6_unkept_47 : decode cX6_unkept 47 = .ok (.iload_n 2, 1) := by decide +kernel
theorem dX6_unkept_48 : decode cX6_unkept 48 = .ok (.ifCond .ne 14, 3) := by decide +kernel
theorem dX6_unkept_51 : decode cX6_unkept 51 = .ok (.aload_n 0, 1) := by decide +kernel
theorem dX6_unkept_52 : decode cX6_unkept 52 = .ok (.getfield 16, 3) := by decide +kernel
theorem dX6_unkept_55 : decode cX6_unkept 55 = .ok (.iload_n 1, 1) := by decide +kernel
theorem dX6_unkept_56 : decode cX6_unkept 56 = .ok (.invokevirtual 207, 3) := by decide +kernel
theorem dX6_unkept_59 : decode cX6_unkept 59 = .ok (.goto 11, 3) := by decide +kernel
theorem dX6_unkept_62 : decode cX6_unkept 62 = .ok (.aload_n 0, 1) := by decide +kernel
theorem dX6_unkept_63 : decode cX6_unkept 63 = .ok (.getfield 16, 3) := by decide +kernel
theorem dX6_unkept_66 : decode cX6_unkept 66 = .ok (.iload_n 1, 1) := by decide +kernel
theorem dX6_unkept_67 : decode cX6_unkept 67 = .ok (.invokevirtual 210, 3) := by decide +kernel
theorem dX6_unkept_70 : decode cX6_unkept 70 = .ok (.ireturn, 1) := by decide +kernel
theorem dX6_parting_0 : decode cX6_parting 0 = .ok (.iload_n 1, 1) := by decide +kernel
theorem dX6_parting_1 : decode cX6_parting 1 = .ok (.iconst (-1), 1) := by decide +kernel
theorem dX6_parting_2 : decode cX6_parting 2 = .ok (.if_icmp .eq 26, 3) := by decide +kernel
theorem dX6_parting_5 : decode cX6_parting 5 = .ok (.iload_n 1, 1) := by decide +kernel
theorem dX6_parting_6 : decode cX6_parting 6 = .ok (.ifCond .lt 14, 3) := by decide +kernel
theorem dX6_parting_9 : decode cX6_parting 9 = .ok (.iload_n 1, 1) := by decide +kernel
theorem dX6_parting_10 : decode cX6_parting 10 = .ok (.aload_n 0, 1) := by decide +kernel
theorem dX6_parting_11 : decode cX6_parting 11 = .ok (.getfield 10, 3) := by decide +kernel
theorem dX6_parting_14 : decode cX6_parting 14 = .ok (.invokevirtual 213, 3) := by decide +kernel
theorem dX6_parting_17 : decode cX6_parting 17 = .ok (.if_icmp .lt 11, 3) := by decide +kernel
theorem dX6_parting_20 : decode cX6_parting 20 = .ok (.aload_n 0, 1) := by decide +kernel
theorem dX6_parting_21 : decode cX6_parting 21 = .ok (.bipush 10, 2) := by decide +kernel
theorem dX6_parting_23 : decode cX6_parting 23 = .ok (.iconst 5, 1) := by decide +kernel
theorem dX6_parting_24 : decode cX6_parting 24 = .ok (.invokevirtual 51, 3) := by decide +kernel
theorem dX6_parting_27 : decode cX6_parting 27 = .ok (.ireturn, 1) := by decide +kernel
theorem dX6_parting_28 : decode cX6_parting 28 = .ok (.aload_n 0, 1) := by decide +kernel
theorem dX6_parting_29 : decode cX6_parting 29 = .ok (.getfield 10, 3) := by decide +kernel
theorem dX6_parting_32 : decode cX6_parting 32 = .ok (.invokevirtual 216, 3) := by decide +kernel
theorem dX6_parting_35 : decode cX6_parting 35 = .ok (.istore_n 2, 1) := by decide +kernel
theorem dX6_parting_36 : decode cX6_parting 36 = .ok (.iload_n 1, 1) := by decide +kernel
theorem dX6_parting_37 : decode cX6_parting 37 = .ok (.iconst (-1), 1) := by decide +kernel
theorem dX6_parting_38 : decode cX6_parting 38 = .ok (.if_icmp .eq 8, 3) := by decide +kernel
theorem dX6_parting_41 : decode cX6_parting 41 = .ok (.iload_n 2, 1) := by decide +kernel
theorem dX6_parting_42 : decode cX6_parting 42 = .ok (.iconst (-1), 1) := by decide +kernel
theorem dX6_parting_43 : decode cX6_parting 43 = .ok (.if_icmp .ne 5, 3) := by decide +kernel
theorem dX6_parting_46 : decode cX6_parting 46 = .ok (.iload_n 2, 1) := by decide +kernel
theorem dX6_parting_47 : decode cX6_parting 47 = .ok (.ireturn, 1) := by decide +kernel
theorem dX6_parting_48 : decode cX6_parting 48 = .ok (.aload_n 0, 1) := by decide +kernel
theorem dX6_parting_49 : decode cX6_parting 49 = .ok (.getfield 10, 3) := by decide +kernel
theorem dX6_parting_52 : decode cX6_parting 52 = .ok (.iload_n 1, 1) := by decide +kernel
theorem dX6_parting_53 : decode cX6_parting 53 = .ok (.invokevirtual 219, 3) := by decide +kernel
theorem dX6_parting_56 : decode cX6_parting 56 = .ok (.astore_n 3, 1) := by decide +kernel
theorem dX6_parting_57 : decode cX6_parting 57 = .ok (.aload_n 3, 1) := by decide +kernel
theorem dX6_parting_58 : decode cX6_parting 58 = .ok (.ifnonnull 7, 3) := by decide +kernel
theorem dX6_parting_61 : decode cX6_parting 61 = .ok (.iconst (-1), 1) := by decide +kernel
theorem dX6_parting_62 : decode cX6_parting 62 = .ok (.goto 7, 3) := by decide +kernel
theorem dX6_parting_65 : decode cX6_parting 65 = .ok (.aload_n 3, 1) := by decide +kernel
theorem dX6_parting_66 : decode cX6_parting 66 = .ok (.getfield 222, 3) := by decide +kernel
theorem dX6_parting_69 : decode cX6_parting 69 = .ok (.ireturn, 1) := by decide +kernel
theorem dX6_rests_0 : decode cX6_rests 0 = .ok (.aload_n 0, 1) := by decide +kernel
theorem dX6_rests_1 : decode cX6_rests 1 = .ok (.getfield 10, 3) := by decide +kernel
theorem dX6_rests_4 : decode cX6_rests 4 = .ok (.iload_n 1, 1) := by decide +kernel
theorem dX6_rests_5 : decode cX6_rests 5 = .ok (.invokevirtual 137, 3) := by decide +kernel
theorem dX6_rests_8 : decode cX6_rests 8 = .ok (.astore_n 2, 1) := by decide +kernel
theorem dX6_rests_9 : decode cX6_rests 9 = .ok (.iload_n 1, 1) := by decide +kernel
theorem dX6_rests_10 : decode cX6_rests 10 = .ok (.iconst (-1), 1) := by decide +kernel
theorem dX6_rests_11 : decode cX6_rests 11 = .ok (.if_icmp .eq 22, 3) := by decide +kernel
theorem dX6_rests_14 : decode cX6_rests 14 = .ok (.aload_n 2, 1) := by decide +kernel
theorem dX6_rests_15 : decode cX6_rests 15 = .ok (.ifnull 10, 3) := by decide +kernel
theorem dX6_rests_18 : decode cX6_rests 18 = .ok (.aload_n 2, 1) := by decide +kernel
theorem dX6_rests_19 : decode cX6_rests 19 = .ok (.getfield 141, 3) := by decide +kernel
theorem dX6_rests_22 : decode cX6_rests 22 = .ok (.ifCond .eq 11, 3) := by decide +kernel
theorem dX6_rests_25 : decode cX6_rests 25 = .ok (.aload_n 0, 1) := by decide +kernel
theorem dX6_rests_26 : decode cX6_rests 26 = .ok (.bipush 10, 2) := by decide +kernel
theorem dX6_rests_28 : decode cX6_rests 28 = .ok (.iconst 1, 1) := by decide +kernel
theorem dX6_rests_29 : decode cX6_rests 29 = .ok (.invokevirtual 51, 3) := by decide +kernel
theorem dX6_rests_32 : decode cX6_rests 32 = .ok (.ireturn, 1) := by decide +kernel
theorem dX6_rests_33 : decode cX6_rests 33 = .ok (.aload_n 0, 1) := by decide +kernel
theorem dX6_rests_34 : decode cX6_rests 34 = .ok (.getfield 10, 3) := by decide +kernel
theorem dX6_rests_37 : decode cX6_rests 37 = .ok (.invokevirtual 225, 3) := by decide +kernel
theorem dX6_rests_40 : decode cX6_rests 40 = .ok (.istore_n 3, 1) := by decide +kernel
theorem dX6_rests_41 : decode cX6_rests 41 = .ok (.aload_n 2, 1) := by decide +kernel
theorem dX6_rests_42 : decode cX6_rests 42 = .ok (.ifnull 8, 3) := by decide +kernel
theorem dX6_rests_45 : decode cX6_rests 45 = .ok (.iload_n 3, 1) := by decide +kernel
theorem dX6_rests_46 : decode cX6_rests 46 = .ok (.iconst (-1), 1) := by decide +kernel
theorem dX6_rests_47 : decode cX6_rests 47 = .ok (.if_icmp .ne 7, 3) := by decide +kernel
theorem dX6_rests_50 : decode cX6_rests 50 = .ok (.iload_n 3, 1) := by decide +kernel
theorem dX6_rests_51 : decode cX6_rests 51 = .ok (.goto 7, 3) := by decide +kernel
theorem dX6_rests_54 : decode cX6_rests 54 = .ok (.aload_n 2, 1) := by decide +kernel
theorem dX6_rests_55 : decode cX6_rests 55 = .ok (.getfield 228, 3) := by decide +kernel
theorem dX6_rests_58 : decode cX6_rests 58 = .ok (.ireturn, 1) := by decide +kernel
theorem dX6_shun_0 : decode cX6_shun 0 = .ok (.aload_n 0, 1) := by decide +kernel
theorem dX6_shun_1 : decode cX6_shun 1 = .ok (.getfield 10, 3) := by decide +kernel
theorem dX6_shun_4 : decode cX6_shun 4 = .ok (.iload_n 1, 1) := by decide +kernel
theorem dX6_shun_5 : decode cX6_shun 5 = .ok (.invokevirtual 94, 3) := by decide +kernel
theorem dX6_shun_8 : decode cX6_shun 8 = .ok (.astore_n 3, 1) := by decide +kernel
theorem dX6_shun_9 : decode cX6_shun 9 = .ok (.aload_n 3, 1) := by decide +kernel
theorem dX6_shun_10 : decode cX6_shun 10 = .ok (.ifnull 10, 3) := by decide +kernel
theorem dX6_shun_13 : decode cX6_shun 13 = .ok (.aload_n 3, 1) := by decide +kernel
theorem dX6_shun_14 : decode cX6_shun 14 = .ok (.getfield 162, 3) := by decide +kernel
theorem dX6_shun_17 : decode cX6_shun 17 = .ok (.ifCond .eq 11, 3) := by decide +kernel
theorem dX6_shun_20 : decode cX6_shun 20 = .ok (.aload_n 0, 1) := by decide +kernel
theorem dX6_shun_21 : decode cX6_shun 21 = .ok (.bipush 10, 2) := by decide +kernel
theorem dX6_shun_23 : decode cX6_shun 23 = .ok (.iconst 1, 1) := by decide +kernel
theorem dX6_shun_24 : decode cX6_shun 24 = .ok (.invokevirtual 51, 3) := by decide +kernel
theorem dX6_shun_27 : decode cX6_shun 27 = .ok (.ireturn, 1) := by decide +kernel
theorem dX6_shun_28 : decode cX6_shun 28 = .ok (.iload_n 2, 1) := by decide +kernel
theorem dX6_shun_29 : decode cX6_shun 29 = .ok (.iconst 0, 1) := by decide +kernel
theorem dX6_shun_30 : decode cX6_shun 30 = .ok (.iconst 1, 1) := by decide +kernel
theorem dX6_shun_31 : decode cX6_shun 31 = .ok (.invokestatic 120, 3) := by decide +kernel
theorem dX6_shun_34 : decode cX6_shun 34 = .ok (.ifCond .eq 11, 3) := by decide +kernel
theorem dX6_shun_37 : decode cX6_shun 37 = .ok (.aload_n 0, 1) := by decide +kernel
theorem dX6_shun_38 : decode cX6_shun 38 = .ok (.bipush 10, 2) := by decide +kernel
theorem dX6_shun_40 : decode cX6_shun 40 = .ok (.iconst 5, 1) := by decide +kernel
theorem dX6_shun_41 : decode cX6_shun 41 = .ok (.invokevirtual 51, 3) := by decide +kernel
theorem dX6_shun_44 : decode cX6_shun 44 = .ok (.ireturn, 1) := by decide +kernel
theorem dX6_shun_45 : decode cX6_shun 45 = .ok (.aload_n 0, 1) := by decide +kernel
theorem dX6_shun_46 : decode cX6_shun 46 = .ok (.getfield 16, 3) := by decide +kernel
theorem dX6_shun_49 : decode cX6_shun 49 = .ok (.aload_n 0, 1) := by decide +kernel
theorem dX6_shun_50 : decode cX6_shun 50 = .ok (.getfield 10, 3) := by decide +kernel
theorem dX6_shun_53 : decode cX6_shun 53 = .ok (.invokevirtual 181, 3) := by decide +kernel
theorem dX6_shun_56 : decode cX6_shun 56 = .ok (.iconst 0, 1) := by decide +kernel
theorem dX6_shun_57 : decode cX6_shun 57 = .ok (.istore 4, 2) := by decide +kernel
theorem dX6_shun_59 : decode cX6_shun 59 = .ok (.iload 4, 2) := by decide +kernel
theorem dX6_shun_61 : decode cX6_shun 61 = .ok (.bipush 20, 2) := by decide +kernel
theorem dX6_shun_63 : decode cX6_shun 63 = .ok (.if_icmp .gt 51, 3) := by decide +kernel
theorem dX6_shun_66 : decode cX6_shun 66 = .ok (.iload_n 2, 1) := by decide +kernel
theorem dX6_shun_67 : decode cX6_shun 67 = .ok (.ifCond .ne 11, 3) := by decide +kernel
theorem dX6_shun_70 : decode cX6_shun 70 = .ok (.bipush 20, 2) := by decide +kernel
theorem dX6_shun_72 : decode cX6_shun 72 = .ok (.iload 4, 2) := by decide +kernel
theorem dX6_shun_74 : decode cX6_shun 74 = .ok (.isub, 1) := by decide +kernel
theorem dX6_shun_75 : decode cX6_shun 75 = .ok (.goto 5, 3) := by decide +kernel
theorem dX6_shun_78 : decode cX6_shun 78 = .ok (.iload 4, 2) := by decide +kernel
theorem dX6_shun_80 : decode cX6_shun 80 = .ok (.istore 5, 2) := by decide +kernel
theorem dX6_shun_82 : decode cX6_shun 82 = .ok (.aload_n 0, 1) := by decide +kernel
theorem dX6_shun_83 : decode cX6_shun 83 = .ok (.getfield 16, 3) := by decide +kernel
theorem dX6_shun_86 : decode cX6_shun 86 = .ok (.iload_n 1, 1) := by decide +kernel
theorem dX6_shun_87 : decode cX6_shun 87 = .ok (.iload 5, 2) := by decide +kernel
theorem dX6_shun_89 : decode cX6_shun 89 = .ok (.invokevirtual 231, 3) := by decide +kernel
theorem dX6_shun_92 : decode cX6_shun 92 = .ok (.iload_n 2, 1) := by decide +kernel
theorem dX6_shun_93 : decode cX6_shun 93 = .ok (.iconst 1, 1) := by decide +kernel
theorem dX6_shun_94 : decode cX6_shun 94 = .ok (.if_icmp .ne 7, 3) := by decide +kernel
theorem dX6_shun_97 : decode cX6_shun 97 = .ok (.iconst 1, 1) := by decide +kernel
theorem dX6_shun_98 : decode cX6_shun 98 = .ok (.goto 4, 3) := by decide +kernel
theorem dX6_shun_101 : decode cX6_shun 101 = .ok (.iconst 0, 1) := by decide +kernel
theorem dX6_shun_102 : decode cX6_shun 102 = .ok (.if_icmp .ne 6, 3) := by decide +kernel
theorem dX6_shun_105 : decode cX6_shun 105 = .ok (.iload 5, 2) := by decide +kernel
theorem dX6_shun_107 : decode cX6_shun 107 = .ok (.ireturn, 1) := by decide +kernel
theorem dX6_shun_108 : decode cX6_shun 108 = .ok (.iinc 4 1, 3) := by decide +kernel
theorem dX6_shun_111 : decode cX6_shun 111 = .ok (.goto (-52), 3) := by decide +kernel
theorem dX6_shun_114 : decode cX6_shun 114 = .ok (.iconst (-1), 1) := by decide +kernel
theorem dX6_shun_115 : decode cX6_shun 115 = .ok (.ireturn, 1) := by decide +kernel
theorem dX6_rules_0 : decode cX6_rules 0 = .ok (.aload_n 0, 1) := by decide +kernel
theorem dX6_rules_1 : decode cX6_rules 1 = .ok (.getfield 10, 3) := by decide +kernel
theorem dX6_rules_4 : decode cX6_rules 4 = .ok (.iload_n 1, 1) := by decide +kernel
theorem dX6_rules_5 : decode cX6_rules 5 = .ok (.invokevirtual 137, 3) := by decide +kernel
theorem dX6_rules_8 : decode cX6_rules 8 = .ok (.astore_n 3, 1) := by decide +kernel
theorem dX6_rules_9 : decode cX6_rules 9 = .ok (.aload_n 3, 1) := by decide +kernel
theorem dX6_rules_10 : decode cX6_rules 10 = .ok (.ifnull 14, 3) := by decide +kernel
theorem dX6_rules_13 : decode cX6_rules 13 = .ok (.aload_n 0, 1) := by decide +kernel
theorem dX6_rules_14 : decode cX6_rules 14 = .ok (.getfield 10, 3) := by decide +kernel
theorem dX6_rules_17 : decode cX6_rules 17 = .ok (.iload_n 2, 1) := by decide +kernel
theorem dX6_rules_18 : decode cX6_rules 18 = .ok (.invokevirtual 94, 3) := by decide +kernel
theorem dX6_rules_21 : decode cX6_rules 21 = .ok (.ifnonnull 10, 3) := by decide +kernel
theorem dX6_rules_24 : decode cX6_rules 24 = .ok (.aload_n 0, 1) := by decide +kernel
theorem dX6_rules_25 : decode cX6_rules 25 = .ok (.iconst 0, 1) := by decide +kernel
theorem dX6_rules_26 : decode cX6_rules 26 = .ok (.iconst 1, 1) := by decide +kernel
theorem dX6_rules_27 : decode cX6_rules 27 = .ok (.invokevirtual 51, 3) := by decide +kernel
theorem dX6_rules_30 : decode cX6_rules 30 = .ok (.ireturn, 1) := by decide +kernel
theorem dX6_rules_31 : decode cX6_rules 31 = .ok (.aload_n 3, 1) := by decide +kernel
theorem dX6_rules_32 : decode cX6_rules 32 = .ok (.getfield 141, 3) := by decide +kernel
theorem dX6_rules_35 : decode cX6_rules 35 = .ok (.ifCond .eq 11, 3) := by decide +kernel
theorem dX6_rules_38 : decode cX6_rules 38 = .ok (.aload_n 0, 1) := by decide +kernel
theorem dX6_rules_39 : decode cX6_rules 39 = .ok (.iconst 0, 1) := by decide +kernel
theorem dX6_rules_40 : decode cX6_rules 40 = .ok (.bipush 6, 2) := by decide +kernel
theorem dX6_rules_42 : decode cX6_rules 42 = .ok (.invokevirtual 51, 3) := by decide +kernel
theorem dX6_rules_45 : decode cX6_rules 45 = .ok (.ireturn, 1) := by decide +kernel
theorem dX6_rules_46 : decode cX6_rules 46 = .ok (.aload_n 0, 1) := by decide +kernel
theorem dX6_rules_47 : decode cX6_rules 47 = .ok (.getfield 16, 3) := by decide +kernel
theorem dX6_rules_50 : decode cX6_rules 50 = .ok (.aload_n 0, 1) := by decide +kernel
theorem dX6_rules_51 : decode cX6_rules 51 = .ok (.getfield 10, 3) := by decide +kernel
theorem dX6_rules_54 : decode cX6_rules 54 = .ok (.invokevirtual 181, 3) := by decide +kernel
theorem dX6_rules_57 : decode cX6_rules 57 = .ok (.iconst 0, 1) := by decide +kernel
theorem dX6_rules_58 : decode cX6_rules 58 = .ok (.istore 4, 2) := by decide +kernel
theorem dX6_rules_60 : decode cX6_rules 60 = .ok (.iconst 0, 1) := by decide +kernel
theorem dX6_rules_61 : decode cX6_rules 61 = .ok (.istore 5, 2) := by decide +kernel
theorem dX6_rules_63 : decode cX6_rules 63 = .ok (.iload 5, 2) := by decide +kernel
theorem dX6_rules_65 : decode cX6_rules 65 = .ok (.iconst 5, 1) := by decide +kernel
theorem dX6_rules_66 : decode cX6_rules 66 = .ok (.if_icmp .ge 32, 3) := by decide +kernel
theorem dX6_rules_69 : decode cX6_rules 69 = .ok (.aload_n 0, 1) := by decide +kernel
theorem dX6_rules_70 : decode cX6_rules 70 = .ok (.getfield 16, 3) := by decide +kernel
theorem dX6_rules_73 : decode cX6_rules 73 = .ok (.iload_n 1, 1) := by decide +kernel
theorem dX6_rules_74 : decode cX6_rules 74 = .ok (.iload 5, 2) := by decide +kernel
theorem dX6_rules_76 : decode cX6_rules 76 = .ok (.invokevirtual 234, 3) := by decide +kernel
theorem dX6_rules_79 : decode cX6_rules 79 = .ok (.iload_n 2, 1) := by decide +kernel
theorem dX6_rules_80 : decode cX6_rules 80 = .ok (.if_icmp .ne 12, 3) := by decide +kernel
theorem dX6_rules_83 : decode cX6_rules 83 = .ok (.iload 4, 2) := by decide +kernel
theorem dX6_rules_85 : decode cX6_rules 85 = .ok (.iconst 1, 1) := by decide +kernel
theorem dX6_rules_86 : decode cX6_rules 86 = .ok (.iload 5, 2) := by decide +kernel
theorem dX6_rules_88 : decode cX6_rules 88 = .ok (.ishl, 1) := by decide +kernel
theorem dX6_rules_89 : decode cX6_rules 89 = .ok (.ior, 1) := by decide +kernel
theorem dX6_rules_90 : decode cX6_rules 90 = .ok (.istore 4, 2) := by decide +kernel
theorem dX6_rules_92 : decode cX6_rules 92 = .ok (.iinc 5 1, 3) := by decide +kernel
theorem dX6_rules_95 : decode cX6_rules 95 = .ok (.goto (-32), 3) := by decide +kernel
theorem dX6_rules_98 : decode cX6_rules 98 = .ok (.iload 4, 2) := by decide +kernel
theorem dX6_rules_100 : decode cX6_rules 100 = .ok (.ireturn, 1) := by decide +kernel
theorem dX6_hide_0 : decode cX6_hide 0 = .ok (.aload_n 0, 1) := by decide +kernel
theorem dX6_hide_1 : decode cX6_hide 1 = .ok (.getfield 10, 3) := by decide +kernel
theorem dX6_hide_4 : decode cX6_hide 4 = .ok (.invokevirtual 192, 3) := by decide +kernel
theorem dX6_hide_7 : decode cX6_hide 7 = .ok (.aload_n 0, 1) := by decide +kernel
theorem dX6_hide_8 : decode cX6_hide 8 = .ok (.getfield 10, 3) := by decide +kernel
theorem dX6_hide_11 : decode cX6_hide 11 = .ok (.invokevirtual 237, 3) := by decide +kernel
theorem dX6_hide_14 : decode cX6_hide 14 = .ok (.ireturn, 1) := by decide +kernel
theorem dX6_lose_0 : decode cX6_lose 0 = .ok (.aload_n 0, 1) := by decide +kernel
theorem dX6_lose_1 : decode cX6_lose 1 = .ok (.getfield 10, 3) := by decide +kernel
theorem dX6_lose_4 : decode cX6_lose 4 = .ok (.iload_n 1, 1) := by decide +kernel
theorem dX6_lose_5 : decode cX6_lose 5 = .ok (.invokevirtual 94, 3) := by decide +kernel
theorem dX6_lose_8 : decode cX6_lose 8 = .ok (.astore_n 2, 1) := by decide +kernel
theorem dX6_lose_9 : decode cX6_lose 9 = .ok (.aload_n 2, 1) := by decide +kernel
theorem dX6_lose_10 : decode cX6_lose 10 = .ok (.ifnonnull 11, 3) := by decide +kernel
theorem dX6_lose_13 : decode cX6_lose 13 = .ok (.aload_n 0, 1) := by decide +kernel
theorem dX6_lose_14 : decode cX6_lose 14 = .ok (.bipush 100, 2) := by decide +kernel
theorem dX6_lose_16 : decode cX6_lose 16 = .ok (.iconst 1, 1) := by decide +kernel
theorem dX6_lose_17 : decode cX6_lose 17 = .ok (.invokevirtual 51, 3) := by decide +kernel
theorem dX6_lose_20 : decode cX6_lose 20 = .ok (.ireturn, 1) := by decide +kernel
theorem dX6_lose_21 : decode cX6_lose 21 = .ok (.aload_n 2, 1) := by decide +kernel
theorem dX6_lose_22 : decode cX6_lose 22 = .ok (.getfield 162, 3) := by decide +kernel
theorem dX6_lose_25 : decode cX6_lose 25 = .ok (.ifCond .eq 12, 3) := by decide +kernel
theorem dX6_lose_28 : decode cX6_lose 28 = .ok (.aload_n 0, 1) := by decide +kernel
theorem dX6_lose_29 : decode cX6_lose 29 = .ok (.bipush 100, 2) := by decide +kernel
theorem dX6_lose_31 : decode cX6_lose 31 = .ok (.bipush 6, 2) := by decide +kernel
theorem dX6_lose_33 : decode cX6_lose 33 = .ok (.invokevirtual 51, 3) := by decide +kernel
theorem dX6_lose_36 : decode cX6_lose 36 = .ok (.ireturn, 1) := by decide +kernel
theorem dX6_lose_37 : decode cX6_lose 37 = .ok (.aload_n 0, 1) := by decide +kernel
theorem dX6_lose_38 : decode cX6_lose 38 = .ok (.getfield 16, 3) := by decide +kernel
theorem dX6_lose_41 : decode cX6_lose 41 = .ok (.aload_n 0, 1) := by decide +kernel
theorem dX6_lose_42 : decode cX6_lose 42 = .ok (.getfield 10, 3) := by decide +kernel
theorem dX6_lose_45 : decode cX6_lose 45 = .ok (.invokevirtual 181, 3) := by decide +kernel
theorem dX6_lose_48 : decode cX6_lose 48 = .ok (.aload_n 0, 1) := by decide +kernel
theorem dX6_lose_49 : decode cX6_lose 49 = .ok (.getfield 16, 3) := by decide +kernel
theorem dX6_lose_52 : decode cX6_lose 52 = .ok (.invokevirtual 240, 3) := by decide +kernel
theorem dX6_lose_55 : decode cX6_lose 55 = .ok (.istore_n 3, 1) := by decide +kernel
theorem dX6_lose_56 : decode cX6_lose 56 = .ok (.aload_n 0, 1) := by decide +kernel
theorem dX6_lose_57 : decode cX6_lose 57 = .ok (.getfield 16, 3) := by decide +kernel
theorem dX6_lose_60 : decode cX6_lose 60 = .ok (.iload_n 1, 1) := by decide +kernel
theorem dX6_lose_61 : decode cX6_lose 61 = .ok (.invokevirtual 94, 3) := by decide +kernel
theorem dX6_lose_64 : decode cX6_lose 64 = .ok (.astore 4, 2) := by decide +kernel
theorem dX6_lose_66 : decode cX6_lose 66 = .ok (.aload 4, 2) := by decide +kernel
theorem dX6_lose_68 : decode cX6_lose 68 = .ok (.ifnull 9, 3) := by decide +kernel
theorem dX6_lose_71 : decode cX6_lose 71 = .ok (.aload 4, 2) := by decide +kernel
theorem dX6_lose_73 : decode cX6_lose 73 = .ok (.iconst 1, 1) := by decide +kernel
theorem dX6_lose_74 : decode cX6_lose 74 = .ok (.putfield 162, 3) := by decide +kernel
theorem dX6_lose_77 : decode cX6_lose 77 = .ok (.aload_n 0, 1) := by decide +kernel
theorem dX6_lose_78 : decode cX6_lose 78 = .ok (.getfield 16, 3) := by decide +kernel
theorem dX6_lose_81 : decode cX6_lose 81 = .ok (.invokevirtual 240, 3) := by decide +kernel
theorem dX6_lose_84 : decode cX6_lose 84 = .ok (.iload_n 3, 1) := by decide +kernel
theorem dX6_lose_85 : decode cX6_lose 85 = .ok (.isub, 1) := by decide +kernel
theorem dX6_lose_86 : decode cX6_lose 86 = .ok (.ireturn, 1) := by decide +kernel
theorem dX6_best_0 : decode cX6_best 0 = .ok (.aload_n 0, 1) := by decide +kernel
theorem dX6_best_1 : decode cX6_best 1 = .ok (.getfield 16, 3) := by decide +kernel
theorem dX6_best_4 : decode cX6_best 4 = .ok (.aload_n 0, 1) := by decide +kernel
theorem dX6_best_5 : decode cX6_best 5 = .ok (.getfield 10, 3) := by decide +kernel
theorem dX6_best_8 : decode cX6_best 8 = .ok (.invokevirtual 181, 3) := by decide +kernel
theorem dX6_best_11 : decode cX6_best 11 = .ok (.iconst (-1), 1) := by decide +kernel
theorem dX6_best_12 : decode cX6_best 12 = .ok (.istore_n 1, 1) := by decide +kernel
theorem dX6_best_13 : decode cX6_best 13 = .ok (.iconst 0, 1) := by decide +kernel
theorem dX6_best_14 : decode cX6_best 14 = .ok (.istore_n 2, 1) := by decide +kernel
theorem dX6_best_15 : decode cX6_best 15 = .ok (.aload_n 0, 1) := by decide +kernel
theorem dX6_best_16 : decode cX6_best 16 = .ok (.getfield 16, 3) := by decide +kernel
theorem dX6_best_19 : decode cX6_best 19 = .ok (.getfield 243, 3) := by decide +kernel
theorem dX6_best_22 : decode cX6_best 22 = .ok (.astore_n 3, 1) := by decide +kernel
theorem dX6_best_23 : decode cX6_best 23 = .ok (.aload_n 3, 1) := by decide +kernel
theorem dX6_best_24 : decode cX6_best 24 = .ok (.arraylength, 1) := by decide +kernel
theorem dX6_best_25 : decode cX6_best 25 = .ok (.istore 4, 2) := by decide +kernel
theorem dX6_best_27 : decode cX6_best 27 = .ok (.iconst 0, 1) := by decide +kernel
theorem dX6_best_28 : decode cX6_best 28 = .ok (.istore 5, 2) := by decide +kernel
theorem dX6_best_30 : decode cX6_best 30 = .ok (.iload 5, 2) := by decide +kernel
theorem dX6_best_32 : decode cX6_best 32 = .ok (.iload 4, 2) := by decide +kernel
theorem dX6_best_34 : decode cX6_best 34 = .ok (.if_icmp .ge 67, 3) := by decide +kernel
theorem dX6_best_37 : decode cX6_best 37 = .ok (.aload_n 3, 1) := by decide +kernel
theorem dX6_best_38 : decode cX6_best 38 = .ok (.iload 5, 2) := by decide +kernel
theorem dX6_best_40 : decode cX6_best 40 = .ok (.aaload, 1) := by decide +kernel
theorem dX6_best_41 : decode cX6_best 41 = .ok (.astore 6, 2) := by decide +kernel
theorem dX6_best_43 : decode cX6_best 43 = .ok (.aload 6, 2) := by decide +kernel
theorem dX6_best_45 : decode cX6_best 45 = .ok (.invokevirtual 247, 3) := by decide +kernel
theorem dX6_best_48 : decode cX6_best 48 = .ok (.ifCond .ne 6, 3) := by decide +kernel
theorem dX6_best_51 : decode cX6_best 51 = .ok (.goto 44, 3) := by decide +kernel
theorem dX6_best_54 : decode cX6_best 54 = .ok (.aload 6, 2) := by decide +kernel
theorem dX6_best_56 : decode cX6_best 56 = .ok (.iconst 1, 1) := by decide +kernel
theorem dX6_best_57 : decode cX6_best 57 = .ok (.putfield 141, 3) := by decide +kernel
theorem dX6_best_60 : decode cX6_best 60 = .ok (.aload_n 0, 1) := by decide +kernel
theorem dX6_best_61 : decode cX6_best 61 = .ok (.getfield 16, 3) := by decide +kernel
theorem dX6_best_64 : decode cX6_best 64 = .ok (.invokevirtual 240, 3) := by decide +kernel
theorem dX6_best_67 : decode cX6_best 67 = .ok (.istore 7, 2) := by decide +kernel
theorem dX6_best_69 : decode cX6_best 69 = .ok (.aload 6, 2) := by decide +kernel
theorem dX6_best_71 : decode cX6_best 71 = .ok (.iconst 0, 1) := by decide +kernel
theorem dX6_best_72 : decode cX6_best 72 = .ok (.putfield 141, 3) := by decide +kernel
theorem dX6_best_75 : decode cX6_best 75 = .ok (.iload_n 1, 1) := by decide +kernel
theorem dX6_best_76 : decode cX6_best 76 = .ok (.iconst (-1), 1) := by decide +kernel
theorem dX6_best_77 : decode cX6_best 77 = .ok (.if_icmp .eq 9, 3) := by decide +kernel
theorem dX6_best_80 : decode cX6_best 80 = .ok (.iload 7, 2) := by decide +kernel
theorem dX6_best_82 : decode cX6_best 82 = .ok (.iload_n 2, 1) := by decide +kernel
theorem dX6_best_83 : decode cX6_best 83 = .ok (.if_icmp .ge 12, 3) := by decide +kernel
theorem dX6_best_86 : decode cX6_best 86 = .ok (.aload 6, 2) := by decide +kernel
theorem dX6_best_88 : decode cX6_best 88 = .ok (.getfield 250, 3) := by decide +kernel
theorem dX6_best_91 : decode cX6_best 91 = .ok (.istore_n 1, 1) := by decide +kernel
theorem dX6_best_92 : decode cX6_best 92 = .ok (.iload 7, 2) := by decide +kernel
theorem dX6_best_94 : decode cX6_best 94 = .ok (.istore_n 2, 1) := by decide +kernel
theorem dX6_best_95 : decode cX6_best 95 = .ok (.iinc 5 1, 3) := by decide +kernel
theorem dX6_best_98 : decode cX6_best 98 = .ok (.goto (-68), 3) := by decide +kernel
theorem dX6_best_101 : decode cX6_best 101 = .ok (.iload_n 1, 1) := by decide +kernel
theorem dX6_best_102 : decode cX6_best 102 = .ok (.ireturn, 1) := by decide +kernel
theorem dX6_judge_0 : decode cX6_judge 0 = .ok (.aload_n 0, 1) := by decide +kernel
theorem dX6_judge_1 : decode cX6_judge 1 = .ok (.iload_n 1, 1) := by decide +kernel
theorem dX6_judge_2 : decode cX6_judge 2 = .ok (.invokevirtual 59, 3) := by decide +kernel
theorem dX6_judge_5 : decode cX6_judge 5 = .ok (.istore_n 3, 1) := by decide +kernel
theorem dX6_judge_6 : decode cX6_judge 6 = .ok (.iload_n 3, 1) := by decide +kernel
theorem dX6_judge_7 : decode cX6_judge 7 = .ok (.ifCond .eq 11, 3) := by decide +kernel
theorem dX6_judge_10 : decode cX6_judge 10 = .ok (.aload_n 0, 1) := by decide +kernel
theorem dX6_judge_11 : decode cX6_judge 11 = .ok (.bipush 10, 2) := by decide +kernel
theorem dX6_judge_13 : decode cX6_judge 13 = .ok (.iload_n 3, 1) := by decide +kernel
theorem dX6_judge_14 : decode cX6_judge 14 = .ok (.invokevirtual 51, 3) := by decide +kernel
theorem dX6_judge_17 : decode cX6_judge 17 = .ok (.ireturn, 1) := by decide +kernel
theorem dX6_judge_18 : decode cX6_judge 18 = .ok (.iload_n 2, 1) := by decide +kernel
theorem dX6_judge_19 : decode cX6_judge 19 = .ok (.ifCond .ge 11, 3) := by decide +kernel
theorem dX6_judge_22 : decode cX6_judge 22 = .ok (.aload_n 0, 1) := by decide +kernel
theorem dX6_judge_23 : decode cX6_judge 23 = .ok (.bipush 10, 2) := by decide +kernel
theorem dX6_judge_25 : decode cX6_judge 25 = .ok (.iconst 4, 1) := by decide +kernel
theorem dX6_judge_26 : decode cX6_judge 26 = .ok (.invokevirtual 51, 3) := by decide +kernel
theorem dX6_judge_29 : decode cX6_judge 29 = .ok (.ireturn, 1) := by decide +kernel
theorem dX6_judge_30 : decode cX6_judge 30 = .ok (.aload_n 0, 1) := by decide +kernel
theorem dX6_judge_31 : decode cX6_judge 31 = .ok (.iload_n 1, 1) := by decide +kernel
theorem dX6_judge_32 : decode cX6_judge 32 = .ok (.invokevirtual 47, 3) := by decide +kernel
theorem dX6_judge_35 : decode cX6_judge 35 = .ok (.astore 4, 2) := by decide +kernel
theorem dX6_judge_37 : decode cX6_judge 37 = .ok (.aload 4, 2) := by decide +kernel
theorem dX6_judge_39 : decode cX6_judge 39 = .ok (.ifnull 12, 3) := by decide +kernel
theorem dX6_judge_42 : decode cX6_judge 42 = .ok (.iload_n 2, 1) := by decide +kernel
theorem dX6_judge_43 : decode cX6_judge 43 = .ok (.aload 4, 2) := by decide +kernel
theorem dX6_judge_45 : decode cX6_judge 45 = .ok (.getfield 253, 3) := by decide +kernel
theorem dX6_judge_48 : decode cX6_judge 48 = .ok (.if_icmp .le 11, 3) := by decide +kernel
theorem dX6_judge_51 : decode cX6_judge 51 = .ok (.aload_n 0, 1) := by decide +kernel
theorem dX6_judge_52 : decode cX6_judge 52 = .ok (.bipush 10, 2) := by decide +kernel
theorem dX6_judge_54 : decode cX6_judge 54 = .ok (.iconst 5, 1) := by decide +kernel
theorem dX6_judge_55 : decode cX6_judge 55 = .ok (.invokevirtual 51, 3) := by decide +kernel
theorem dX6_judge_58 : decode cX6_judge 58 = .ok (.ireturn, 1) := by decide +kernel
theorem dX6_judge_59 : decode cX6_judge 59 = .ok (.iload_n 2, 1) := by decide +kernel
theorem dX6_judge_60 : decode cX6_judge 60 = .ok (.bipush 40, 2) := by decide +kernel
theorem dX6_judge_62 : decode cX6_judge 62 = .ok (.if_icmp .le 12, 3) := by decide +kernel
theorem dX6_judge_65 : decode cX6_judge 65 = .ok (.aload_n 0, 1) := by decide +kernel
theorem dX6_judge_66 : decode cX6_judge 66 = .ok (.bipush 10, 2) := by decide +kernel
theorem dX6_judge_68 : decode cX6_judge 68 = .ok (.bipush 6, 2) := by decide +kernel
theorem dX6_judge_70 : decode cX6_judge 70 = .ok (.invokevirtual 51, 3) := by decide +kernel
theorem dX6_judge_73 : decode cX6_judge 73 = .ok (.ireturn, 1) := by decide +kernel
theorem dX6_judge_74 : decode cX6_judge 74 = .ok (.aload_n 0, 1) := by decide +kernel
theorem dX6_judge_75 : decode cX6_judge 75 = .ok (.getfield 10, 3) := by decide +kernel
theorem dX6_judge_78 : decode cX6_judge 78 = .ok (.invokevirtual 192, 3) := by decide +kernel
theorem dX6_judge_81 : decode cX6_judge 81 = .ok (.aload_n 0, 1) := by decide +kernel
theorem dX6_judge_82 : decode cX6_judge 82 = .ok (.getfield 10, 3) := by decide +kernel
theorem dX6_judge_85 : decode cX6_judge 85 = .ok (.aload 4, 2) := by decide +kernel
theorem dX6_judge_87 : decode cX6_judge 87 = .ok (.iload_n 2, 1) := by decide +kernel
theorem dX6_judge_88 : decode cX6_judge 88 = .ok (.invokevirtual 256, 3) := by decide +kernel
theorem dX6_judge_91 : decode cX6_judge 91 = .ok (.ireturn, 1) := by decide +kernel
theorem dX6_mornings_0 : decode cX6_mornings 0 = .ok (.iload_n 1, 1) := by decide +kernel
theorem dX6_mornings_1 : decode cX6_mornings 1 = .ok (.iconst 1, 1) := by decide +kernel
theorem dX6_mornings_2 : decode cX6_mornings 2 = .ok (.bipush 60, 2) := by decide +kernel
theorem dX6_mornings_4 : decode cX6_mornings 4 = .ok (.invokestatic 120, 3) := by decide +kernel
theorem dX6_mornings_7 : decode cX6_mornings 7 = .ok (.ifCond .eq 11, 3) := by decide +kernel
theorem dX6_mornings_10 : decode cX6_mornings 10 = .ok (.aload_n 0, 1) := by decide +kernel
theorem dX6_mornings_11 : decode cX6_mornings 11 = .ok (.iconst 0, 1) := by decide +kernel
theorem dX6_mornings_12 : decode cX6_mornings 12 = .ok (.bipush 6, 2) := by decide +kernel
theorem dX6_mornings_14 : decode cX6_mornings 14 = .ok (.invokevirtual 51, 3) := by decide +kernel
theorem dX6_mornings_17 : decode cX6_mornings 17 = .ok (.ireturn, 1) := by decide +kernel
theorem dX6_mornings_18 : decode cX6_mornings 18 = .ok (.aload_n 0, 1) := by decide +kernel
theorem dX6_mornings_19 : decode cX6_mornings 19 = .ok (.getfield 10, 3) := by decide +kernel
theorem dX6_mornings_22 : decode cX6_mornings 22 = .ok (.iload_n 1, 1) := by decide +kernel
theorem dX6_mornings_23 : decode cX6_mornings 23 = .ok (.invokevirtual 207, 3) := by decide +kernel
theorem dX6_mornings_26 : decode cX6_mornings 26 = .ok (.ireturn, 1) := by decide +kernel
theorem dX6_winters_0 : decode cX6_winters 0 = .ok (.iload_n 1, 1) := by decide +kernel
theorem dX6_winters_1 : decode cX6_winters 1 = .ok (.iconst 1, 1) := by decide +kernel
theorem dX6_winters_2 : decode cX6_winters 2 = .ok (.bipush 60, 2) := by decide +kernel
theorem dX6_winters_4 : decode cX6_winters 4 = .ok (.invokestatic 120, 3) := by decide +kernel
theorem dX6_winters_7 : decode cX6_winters 7 = .ok (.ifCond .eq 11, 3) := by decide +kernel
theorem dX6_winters_10 : decode cX6_winters 10 = .ok (.aload_n 0, 1) := by decide +kernel
theorem dX6_winters_11 : decode cX6_winters 11 = .ok (.iconst 0, 1) := by decide +kernel
theorem dX6_winters_12 : decode cX6_winters 12 = .ok (.bipush 6, 2) := by decide +kernel
theorem dX6_winters_14 : decode cX6_winters 14 = .ok (.invokevirtual 51, 3) := by decide +kernel
theorem dX6_winters_17 : decode cX6_winters 17 = .ok (.ireturn, 1) := by decide +kernel
theorem dX6_winters_18 : decode cX6_winters 18 = .ok (.iconst 0, 1) := by decide +kernel
theorem dX6_winters_19 : decode cX6_winters 19 = .ok (.istore_n 2, 1) := by decide +kernel
theorem dX6_winters_20 : decode cX6_winters 20 = .ok (.iconst 0, 1) := by decide +kernel
theorem dX6_winters_21 : decode cX6_winters 21 = .ok (.istore_n 3, 1) := by decide +kernel
theorem dX6_winters_22 : decode cX6_winters 22 = .ok (.iload_n 3, 1) := by decide +kernel
theorem dX6_winters_23 : decode cX6_winters 23 = .ok (.iload_n 1, 1) := by decide +kernel
theorem dX6_winters_24 : decode cX6_winters 24 = .ok (.if_icmp .ge 26, 3) := by decide +kernel
theorem dX6_winters_27 : decode cX6_winters 27 = .ok (.aload_n 0, 1) := by decide +kernel
theorem dX6_winters_28 : decode cX6_winters 28 = .ok (.getfield 10, 3) := by decide +kernel
theorem dX6_winters_31 : decode cX6_winters 31 = .ok (.invokevirtual 260, 3) := by decide +kernel
theorem dX6_winters_34 : decode cX6_winters 34 = .ok (.iload_n 2, 1) := by decide +kernel
theorem dX6_winters_35 : decode cX6_winters 35 = .ok (.aload_n 0, 1) := by decide +kernel
theorem dX6_winters_36 : decode cX6_winters 36 = .ok (.getfield 10, 3) := by decide +kernel
theorem dX6_winters_39 : decode cX6_winters 39 = .ok (.invokevirtual 263, 3) := by decide +kernel
theorem dX6_winters_42 : decode cX6_winters 42 = .ok (.iadd, 1) := by decide +kernel
theorem dX6_winters_43 : decode cX6_winters 43 = .ok (.istore_n 2, 1) := by decide +kernel
theorem dX6_winters_44 : decode cX6_winters 44 = .ok (.iinc 3 1, 3) := by decide +kernel
