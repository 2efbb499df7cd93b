/-! decode rows -/
theorem dX4_init_0 : decode cX4_init 0 = .ok (.aload_n 0, 1) := by decide +kernel
theorem dX4_init_1 : decode cX4_init 1 = .ok (.invokespecial 3, 3) := by decide +kernel
theorem dX4_init_4 : decode cX4_init 4 = .ok (.aload_n 0, 1) := by decide +kernel
theorem dX4_init_5 : decode cX4_init 5 = .ok (.sipush 160, 3) := by decide +kernel
theorem dX4_init_8 : decode cX4_init 8 = .ok (.newarray .int, 2) := by decide +kernel
theorem dX4_init_10 : decode cX4_init 10 = .ok (.putfield 9, 3) := by decide +kernel
theorem dX4_init_13 : decode cX4_init 13 = .ok (.aload_n 0, 1) := by decide +kernel
theorem dX4_init_14 : decode cX4_init 14 = .ok (.iconst (-1), 1) := by decide +kernel
theorem dX4_init_15 : decode cX4_init 15 = .ok (.putfield 15, 3) := by decide +kernel
theorem dX4_init_18 : decode cX4_init 18 = .ok (.return_, 1) := by decide +kernel
theorem dX4_read_0 : decode cX4_read 0 = .ok (.aload_n 0, 1) := by decide +kernel
theorem dX4_read_1 : decode cX4_read 1 = .ok (.aload_n 1, 1) := by decide +kernel
theorem dX4_read_2 : decode cX4_read 2 = .ok (.getfield 19, 3) := by decide +kernel
theorem dX4_read_5 : decode cX4_read 5 = .ok (.putfield 24, 3) := by decide +kernel
theorem dX4_read_8 : decode cX4_read 8 = .ok (.iconst 0, 1) := by decide +kernel
theorem dX4_read_9 : decode cX4_read 9 = .ok (.istore_n 3, 1) := by decide +kernel
theorem dX4_read_10 : decode cX4_read 10 = .ok (.iload_n 3, 1) := by decide +kernel
theorem dX4_read_11 : decode cX4_read 11 = .ok (.aload_n 0, 1) := by decide +kernel
theorem dX4_read_12 : decode cX4_read 12 = .ok (.getfield 9, 3) := by decide +kernel
theorem dX4_read_15 : decode cX4_read 15 = .ok (.arraylength, 1) := by decide +kernel
theorem dX4_read_16 : decode cX4_read 16 = .ok (.if_icmp .ge 20, 3) := by decide +kernel
theorem dX4_read_19 : decode cX4_read 19 = .ok (.aload_n 0, 1) := by decide +kernel
theorem dX4_read_20 : decode cX4_read 20 = .ok (.getfield 9, 3) := by decide +kernel
theorem dX4_read_23 : decode cX4_read 23 = .ok (.iload_n 3, 1) := by decide +kernel
theorem dX4_read_24 : decode cX4_read 24 = .ok (.aload_n 1, 1) := by decide +kernel
theorem dX4_read_25 : decode cX4_read 25 = .ok (.iload_n 3, 1) := by decide +kernel
theorem dX4_read_26 : decode cX4_read 26 = .ok (.invokevirtual 25, 3) := by decide +kernel
theorem dX4_read_29 : decode cX4_read 29 = .ok (.iastore, 1) := by decide +kernel
theorem dX4_read_30 : decode cX4_read 30 = .ok (.iinc 3 1, 3) := by decide +kernel
theorem dX4_read_33 : decode cX4_read 33 = .ok (.goto (-23), 3) := by decide +kernel
theorem dX4_read_36 : decode cX4_read 36 = .ok (.aload_n 0, 1) := by decide +kernel
theorem dX4_read_37 : decode cX4_read 37 = .ok (.iconst 0, 1) := by decide +kernel
theorem dX4_read_38 : decode cX4_read 38 = .ok (.putfield 29, 3) := by decide +kernel
theorem dX4_read_41 : decode cX4_read 41 = .ok (.aload_n 0, 1) := by decide +kernel
theorem dX4_read_42 : decode cX4_read 42 = .ok (.iconst (-1), 1) := by decide +kernel
theorem dX4_read_43 : decode cX4_read 43 = .ok (.putfield 15, 3) := by decide +kernel
theorem dX4_read_46 : decode cX4_read 46 = .ok (.iconst 1, 1) := by decide +kernel
theorem dX4_read_47 : decode cX4_read 47 = .ok (.istore_n 3, 1) := by decide +kernel
theorem dX4_read_48 : decode cX4_read 48 = .ok (.iload_n 3, 1) := by decide +kernel
theorem dX4_read_49 : decode cX4_read 49 = .ok (.sipush 160, 3) := by decide +kernel
theorem dX4_read_52 : decode cX4_read 52 = .ok (.if_icmp .gt 43, 3) := by decide +kernel
theorem dX4_read_55 : decode cX4_read 55 = .ok (.aload_n 0, 1) := by decide +kernel
theorem dX4_read_56 : decode cX4_read 56 = .ok (.aload_n 2, 1) := by decide +kernel
theorem dX4_read_57 : decode cX4_read 57 = .ok (.invokevirtual 32, 3) := by decide +kernel
theorem dX4_read_60 : decode cX4_read 60 = .ok (.ifCond .ne 5, 3) := by decide +kernel
theorem dX4_read_63 : decode cX4_read 63 = .ok (.iconst (-1), 1) := by decide +kernel
theorem dX4_read_64 : decode cX4_read 64 = .ok (.ireturn, 1) := by decide +kernel
theorem dX4_read_65 : decode cX4_read 65 = .ok (.aload_n 0, 1) := by decide +kernel
theorem dX4_read_66 : decode cX4_read 66 = .ok (.getfield 29, 3) := by decide +kernel
theorem dX4_read_69 : decode cX4_read 69 = .ok (.aload_n 0, 1) := by decide +kernel
theorem dX4_read_70 : decode cX4_read 70 = .ok (.getfield 24, 3) := by decide +kernel
theorem dX4_read_73 : decode cX4_read 73 = .ok (.if_icmp .lt 5, 3) := by decide +kernel
theorem dX4_read_76 : decode cX4_read 76 = .ok (.iload_n 3, 1) := by decide +kernel
theorem dX4_read_77 : decode cX4_read 77 = .ok (.ireturn, 1) := by decide +kernel
theorem dX4_read_78 : decode cX4_read 78 = .ok (.aload_n 0, 1) := by decide +kernel
theorem dX4_read_79 : decode cX4_read 79 = .ok (.bipush 59, 2) := by decide +kernel
theorem dX4_read_81 : decode cX4_read 81 = .ok (.invokevirtual 36, 3) := by decide +kernel
theorem dX4_read_84 : decode cX4_read 84 = .ok (.ifCond .ne 5, 3) := by decide +kernel
theorem dX4_read_87 : decode cX4_read 87 = .ok (.iconst (-1), 1) := by decide +kernel
theorem dX4_read_88 : decode cX4_read 88 = .ok (.ireturn, 1) := by decide +kernel
theorem dX4_read_89 : decode cX4_read 89 = .ok (.iinc 3 1, 3) := by decide +kernel
theorem dX4_read_92 : decode cX4_read 92 = .ok (.goto (-44), 3) := by decide +kernel
theorem dX4_read_95 : decode cX4_read 95 = .ok (.iconst (-1), 1) := by decide +kernel
theorem dX4_read_96 : decode cX4_read 96 = .ok (.ireturn, 1) := by decide +kernel
theorem dX4_readItem_0 : decode cX4_readItem 0 = .ok (.aload_n 0, 1) := by decide +kernel
theorem dX4_readItem_1 : decode cX4_readItem 1 = .ok (.getfield 29, 3) := by decide +kernel
theorem dX4_readItem_4 : decode cX4_readItem 4 = .ok (.istore_n 2, 1) := by decide +kernel
theorem dX4_readItem_5 : decode cX4_readItem 5 = .ok (.aload_n 0, 1) := by decide +kernel
theorem dX4_readItem_6 : decode cX4_readItem 6 = .ok (.invokevirtual 40, 3) := by decide +kernel
theorem dX4_readItem_9 : decode cX4_readItem 9 = .ok (.istore_n 3, 1) := by decide +kernel
theorem dX4_readItem_10 : decode cX4_readItem 10 = .ok (.iload_n 3, 1) := by decide +kernel
theorem dX4_readItem_11 : decode cX4_readItem 11 = .ok (.ifCond .ne 29, 3) := by decide +kernel
theorem dX4_readItem_14 : decode cX4_readItem 14 = .ok (.aload_n 0, 1) := by decide +kernel
theorem dX4_readItem_15 : decode cX4_readItem 15 = .ok (.aload_n 1, 1) := by decide +kernel
theorem dX4_readItem_16 : decode cX4_readItem 16 = .ok (.getfield 44, 3) := by decide +kernel
theorem dX4_readItem_19 : decode cX4_readItem 19 = .ok (.iload_n 2, 1) := by decide +kernel
theorem dX4_readItem_20 : decode cX4_readItem 20 = .ok (.invokevirtual 49, 3) := by decide +kernel
theorem dX4_readItem_23 : decode cX4_readItem 23 = .ok (.ifCond .eq 15, 3) := by decide +kernel
theorem dX4_readItem_26 : decode cX4_readItem 26 = .ok (.aload_n 0, 1) := by decide +kernel
theorem dX4_readItem_27 : decode cX4_readItem 27 = .ok (.aload_n 1, 1) := by decide +kernel
theorem dX4_readItem_28 : decode cX4_readItem 28 = .ok (.invokevirtual 53, 3) := by decide +kernel
theorem dX4_readItem_31 : decode cX4_readItem 31 = .ok (.ifCond .eq 7, 3) := by decide +kernel
theorem dX4_readItem_34 : decode cX4_readItem 34 = .ok (.iconst 1, 1) := by decide +kernel
theorem dX4_readItem_35 : decode cX4_readItem 35 = .ok (.goto 4, 3) := by decide +kernel
theorem dX4_readItem_38 : decode cX4_readItem 38 = .ok (.iconst 0, 1) := by decide +kernel
theorem dX4_readItem_39 : decode cX4_readItem 39 = .ok (.ireturn, 1) := by decide +kernel
theorem dX4_readItem_40 : decode cX4_readItem 40 = .ok (.iload_n 3, 1) := by decide +kernel
theorem dX4_readItem_41 : decode cX4_readItem 41 = .ok (.iconst 1, 1) := by decide +kernel
theorem dX4_readItem_42 : decode cX4_readItem 42 = .ok (.if_icmp .ne 29, 3) := by decide +kernel
theorem dX4_readItem_45 : decode cX4_readItem 45 = .ok (.aload_n 0, 1) := by decide +kernel
theorem dX4_readItem_46 : decode cX4_readItem 46 = .ok (.aload_n 1, 1) := by decide +kernel
theorem dX4_readItem_47 : decode cX4_readItem 47 = .ok (.getfield 56, 3) := by decide +kernel
theorem dX4_readItem_50 : decode cX4_readItem 50 = .ok (.iload_n 2, 1) := by decide +kernel
theorem dX4_readItem_51 : decode cX4_readItem 51 = .ok (.invokevirtual 49, 3) := by decide +kernel
theorem dX4_readItem_54 : decode cX4_readItem 54 = .ok (.ifCond .eq 15, 3) := by decide +kernel
theorem dX4_readItem_57 : decode cX4_readItem 57 = .ok (.aload_n 0, 1) := by decide +kernel
theorem dX4_readItem_58 : decode cX4_readItem 58 = .ok (.aload_n 1, 1) := by decide +kernel
theorem dX4_readItem_59 : decode cX4_readItem 59 = .ok (.invokevirtual 59, 3) := by decide +kernel
theorem dX4_readItem_62 : decode cX4_readItem 62 = .ok (.ifCond .eq 7, 3) := by decide +kernel
theorem dX4_readItem_65 : decode cX4_readItem 65 = .ok (.iconst 1, 1) := by decide +kernel
theorem dX4_readItem_66 : decode cX4_readItem 66 = .ok (.goto 4, 3) := by decide +kernel
theorem dX4_readItem_69 : decode cX4_readItem 69 = .ok (.iconst 0, 1) := by decide +kernel
theorem dX4_readItem_70 : decode cX4_readItem 70 = .ok (.ireturn, 1) := by decide +kernel
theorem dX4_readItem_71 : decode cX4_readItem 71 = .ok (.iload_n 3, 1) := by decide +kernel
theorem dX4_readItem_72 : decode cX4_readItem 72 = .ok (.iconst 5, 1) := by decide +kernel
theorem dX4_readItem_73 : decode cX4_readItem 73 = .ok (.if_icmp .ne 9, 3) := by decide +kernel
theorem dX4_readItem_76 : decode cX4_readItem 76 = .ok (.aload_n 0, 1) := by decide +kernel
theorem dX4_readItem_77 : decode cX4_readItem 77 = .ok (.aload_n 1, 1) := by decide +kernel
theorem dX4_readItem_78 : decode cX4_readItem 78 = .ok (.invokevirtual 62, 3) := by decide +kernel
theorem dX4_readItem_81 : decode cX4_readItem 81 = .ok (.ireturn, 1) := by decide +kernel
theorem dX4_readItem_82 : decode cX4_readItem 82 = .ok (.iload_n 3, 1) := by decide +kernel
theorem dX4_readItem_83 : decode cX4_readItem 83 = .ok (.iconst (-1), 1) := by decide +kernel
theorem dX4_readItem_84 : decode cX4_readItem 84 = .ok (.if_icmp .eq 16, 3) := by decide +kernel
theorem dX4_readItem_87 : decode cX4_readItem 87 = .ok (.aload_n 0, 1) := by decide +kernel
theorem dX4_readItem_88 : decode cX4_readItem 88 = .ok (.aload_n 1, 1) := by decide +kernel
theorem dX4_readItem_89 : decode cX4_readItem 89 = .ok (.iload_n 3, 1) := by decide +kernel
theorem dX4_readItem_90 : decode cX4_readItem 90 = .ok (.invokevirtual 65, 3) := by decide +kernel
theorem dX4_readItem_93 : decode cX4_readItem 93 = .ok (.ifCond .eq 7, 3) := by decide +kernel
theorem dX4_readItem_96 : decode cX4_readItem 96 = .ok (.iconst 1, 1) := by decide +kernel
theorem dX4_readItem_97 : decode cX4_readItem 97 = .ok (.goto 4, 3) := by decide +kernel
theorem dX4_readItem_100 : decode cX4_readItem 100 = .ok (.iconst 0, 1) := by decide +kernel
theorem dX4_readItem_101 : decode cX4_readItem 101 = .ok (.ireturn, 1) := by decide +kernel
theorem dX4_hasRoom_0 : decode cX4_hasRoom 0 = .ok (.iload_n 1, 1) := by decide +kernel
theorem dX4_hasRoom_1 : decode cX4_hasRoom 1 = .ok (.bipush 6, 2) := by decide +kernel
theorem dX4_hasRoom_3 : decode cX4_hasRoom 3 = .ok (.if_icmp .lt 11, 3) := by decide +kernel
theorem dX4_hasRoom_6 : decode cX4_hasRoom 6 = .ok (.aload_n 0, 1) := by decide +kernel
theorem dX4_hasRoom_7 : decode cX4_hasRoom 7 = .ok (.iload_n 2, 1) := by decide +kernel
theorem dX4_hasRoom_8 : decode cX4_hasRoom 8 = .ok (.invokevirtual 69, 3) := by decide +kernel
theorem dX4_hasRoom_11 : decode cX4_hasRoom 11 = .ok (.ifCond .eq 7, 3) := by decide +kernel
theorem dX4_hasRoom_14 : decode cX4_hasRoom 14 = .ok (.iconst 1, 1) := by decide +kernel
theorem dX4_hasRoom_15 : decode cX4_hasRoom 15 = .ok (.goto 4, 3) := by decide +kernel
theorem dX4_hasRoom_18 : decode cX4_hasRoom 18 = .ok (.iconst 0, 1) := by decide +kernel
theorem dX4_hasRoom_19 : decode cX4_hasRoom 19 = .ok (.ireturn, 1) := by decide +kernel
theorem dX4_readCitizen_0 : decode cX4_readCitizen 0 = .ok (.aload_n 0, 1) := by decide +kernel
theorem dX4_readCitizen_1 : decode cX4_readCitizen 1 = .ok (.iconst 0, 1) := by decide +kernel
theorem dX4_readCitizen_2 : decode cX4_readCitizen 2 = .ok (.bipush 6, 2) := by decide +kernel
theorem dX4_readCitizen_4 : decode cX4_readCitizen 4 = .ok (.invokevirtual 73, 3) := by decide +kernel
theorem dX4_readCitizen_7 : decode cX4_readCitizen 7 = .ok (.istore_n 2, 1) := by decide +kernel
theorem dX4_readCitizen_8 : decode cX4_readCitizen 8 = .ok (.iload_n 2, 1) := by decide +kernel
theorem dX4_readCitizen_9 : decode cX4_readCitizen 9 = .ok (.iconst (-1), 1) := by decide +kernel
theorem dX4_readCitizen_10 : decode cX4_readCitizen 10 = .ok (.if_icmp .ne 7, 3) := by decide +kernel
theorem dX4_readCitizen_13 : decode cX4_readCitizen 13 = .ok (.iconst (-1), 1) := by decide +kernel
theorem dX4_readCitizen_14 : decode cX4_readCitizen 14 = .ok (.goto 10, 3) := by decide +kernel
theorem dX4_readCitizen_17 : decode cX4_readCitizen 17 = .ok (.aload_n 0, 1) := by decide +kernel
theorem dX4_readCitizen_18 : decode cX4_readCitizen 18 = .ok (.iconst 0, 1) := by decide +kernel
theorem dX4_readCitizen_19 : decode cX4_readCitizen 19 = .ok (.bipush 9, 2) := by decide +kernel
theorem dX4_readCitizen_21 : decode cX4_readCitizen 21 = .ok (.invokevirtual 73, 3) := by decide +kernel
theorem dX4_readCitizen_24 : decode cX4_readCitizen 24 = .ok (.istore_n 3, 1) := by decide +kernel
theorem dX4_readCitizen_25 : decode cX4_readCitizen 25 = .ok (.iload_n 3, 1) := by decide +kernel
theorem dX4_readCitizen_26 : decode cX4_readCitizen 26 = .ok (.iconst (-1), 1) := by decide +kernel
theorem dX4_readCitizen_27 : decode cX4_readCitizen 27 = .ok (.if_icmp .ne 7, 3) := by decide +kernel
theorem dX4_readCitizen_30 : decode cX4_readCitizen 30 = .ok (.iconst (-1), 1) := by decide +kernel
theorem dX4_readCitizen_31 : decode cX4_readCitizen 31 = .ok (.goto 10, 3) := by decide +kernel
theorem dX4_readCitizen_34 : decode cX4_readCitizen 34 = .ok (.aload_n 0, 1) := by decide +kernel
theorem dX4_readCitizen_35 : decode cX4_readCitizen 35 = .ok (.iconst 0, 1) := by decide +kernel
theorem dX4_readCitizen_36 : decode cX4_readCitizen 36 = .ok (.bipush 99, 2) := by decide +kernel
theorem dX4_readCitizen_38 : decode cX4_readCitizen 38 = .ok (.invokevirtual 73, 3) := by decide +kernel
theorem dX4_readCitizen_41 : decode cX4_readCitizen 41 = .ok (.istore 4, 2) := by decide +kernel
theorem dX4_readCitizen_43 : decode cX4_readCitizen 43 = .ok (.iload 4, 2) := by decide +kernel
theorem dX4_readCitizen_45 : decode cX4_readCitizen 45 = .ok (.iconst (-1), 1) := by decide +kernel
theorem dX4_readCitizen_46 : decode cX4_readCitizen 46 = .ok (.if_icmp .ne 7, 3) := by decide +kernel
theorem dX4_readCitizen_49 : decode cX4_readCitizen 49 = .ok (.iconst (-1), 1) := by decide +kernel
theorem dX4_readCitizen_50 : decode cX4_readCitizen 50 = .ok (.goto 10, 3) := by decide +kernel
theorem dX4_readCitizen_53 : decode cX4_readCitizen 53 = .ok (.aload_n 0, 1) := by decide +kernel
theorem dX4_readCitizen_54 : decode cX4_readCitizen 54 = .ok (.iconst 0, 1) := by decide +kernel
theorem dX4_readCitizen_55 : decode cX4_readCitizen 55 = .ok (.bipush 20, 2) := by decide +kernel
theorem dX4_readCitizen_57 : decode cX4_readCitizen 57 = .ok (.invokevirtual 73, 3) := by decide +kernel
theorem dX4_readCitizen_60 : decode cX4_readCitizen 60 = .ok (.istore 5, 2) := by decide +kernel
theorem dX4_readCitizen_62 : decode cX4_readCitizen 62 = .ok (.iload 5, 2) := by decide +kernel
theorem dX4_readCitizen_64 : decode cX4_readCitizen 64 = .ok (.iconst (-1), 1) := by decide +kernel
theorem dX4_readCitizen_65 : decode cX4_readCitizen 65 = .ok (.if_icmp .eq 21, 3) := by decide +kernel
theorem dX4_readCitizen_68 : decode cX4_readCitizen 68 = .ok (.aload_n 1, 1) := by decide +kernel
theorem dX4_readCitizen_69 : decode cX4_readCitizen 69 = .ok (.iload_n 2, 1) := by decide +kernel
theorem dX4_readCitizen_70 : decode cX4_readCitizen 70 = .ok (.iload_n 3, 1) := by decide +kernel
theorem dX4_readCitizen_71 : decode cX4_readCitizen 71 = .ok (.iload 4, 2) := by decide +kernel
theorem dX4_readCitizen_73 : decode cX4_readCitizen 73 = .ok (.iload 5, 2) := by decide +kernel
theorem dX4_readCitizen_75 : decode cX4_readCitizen 75 = .ok (.invokevirtual 77, 3) := by decide +kernel
theorem dX4_readCitizen_78 : decode cX4_readCitizen 78 = .ok (.iconst (-1), 1) := by decide +kernel
theorem dX4_readCitizen_79 : decode cX4_readCitizen 79 = .ok (.if_icmp .eq 7, 3) := by decide +kernel
theorem dX4_readCitizen_82 : decode cX4_readCitizen 82 = .ok (.iconst 1, 1) := by decide +kernel
theorem dX4_readCitizen_83 : decode cX4_readCitizen 83 = .ok (.goto 4, 3) := by decide +kernel
theorem dX4_readCitizen_86 : decode cX4_readCitizen 86 = .ok (.iconst 0, 1) := by decide +kernel
theorem dX4_readCitizen_87 : decode cX4_readCitizen 87 = .ok (.ireturn, 1) := by decide +kernel
theorem dX4_readBeggar_0 : decode cX4_readBeggar 0 = .ok (.aload_n 0, 1) := by decide +kernel
theorem dX4_readBeggar_1 : decode cX4_readBeggar 1 = .ok (.iconst 1, 1) := by decide +kernel
theorem dX4_readBeggar_2 : decode cX4_readBeggar 2 = .ok (.bipush 9, 2) := by decide +kernel
theorem dX4_readBeggar_4 : decode cX4_readBeggar 4 = .ok (.invokevirtual 73, 3) := by decide +kernel
theorem dX4_readBeggar_7 : decode cX4_readBeggar 7 = .ok (.istore_n 2, 1) := by decide +kernel
theorem dX4_readBeggar_8 : decode cX4_readBeggar 8 = .ok (.iload_n 2, 1) := by decide +kernel
theorem dX4_readBeggar_9 : decode cX4_readBeggar 9 = .ok (.iconst (-1), 1) := by decide +kernel
theorem dX4_readBeggar_10 : decode cX4_readBeggar 10 = .ok (.if_icmp .ne 7, 3) := by decide +kernel
theorem dX4_readBeggar_13 : decode cX4_readBeggar 13 = .ok (.iconst (-1), 1) := by decide +kernel
theorem dX4_readBeggar_14 : decode cX4_readBeggar 14 = .ok (.goto 9, 3) := by decide +kernel
theorem dX4_readBeggar_17 : decode cX4_readBeggar 17 = .ok (.aload_n 0, 1) := by decide +kernel
theorem dX4_readBeggar_18 : decode cX4_readBeggar 18 = .ok (.iconst 0, 1) := by decide +kernel
theorem dX4_readBeggar_19 : decode cX4_readBeggar 19 = .ok (.iconst 4, 1) := by decide +kernel
theorem dX4_readBeggar_20 : decode cX4_readBeggar 20 = .ok (.invokevirtual 73, 3) := by decide +kernel
theorem dX4_readBeggar_23 : decode cX4_readBeggar 23 = .ok (.istore_n 3, 1) := by decide +kernel
theorem dX4_readBeggar_24 : decode cX4_readBeggar 24 = .ok (.iload_n 3, 1) := by decide +kernel
theorem dX4_readBeggar_25 : decode cX4_readBeggar 25 = .ok (.iconst (-1), 1) := by decide +kernel
theorem dX4_readBeggar_26 : decode cX4_readBeggar 26 = .ok (.if_icmp .eq 17, 3) := by decide +kernel
theorem dX4_readBeggar_29 : decode cX4_readBeggar 29 = .ok (.aload_n 1, 1) := by decide +kernel
theorem dX4_readBeggar_30 : decode cX4_readBeggar 30 = .ok (.iload_n 2, 1) := by decide +kernel
theorem dX4_readBeggar_31 : decode cX4_readBeggar 31 = .ok (.iload_n 3, 1) := by decide +kernel
theorem dX4_readBeggar_32 : decode cX4_readBeggar 32 = .ok (.invokevirtual 81, 3) := by decide +kernel
theorem dX4_readBeggar_35 : decode cX4_readBeggar 35 = .ok (.iconst (-1), 1) := by decide +kernel
theorem dX4_readBeggar_36 : decode cX4_readBeggar 36 = .ok (.if_icmp .eq 7, 3) := by decide +kernel
theorem dX4_readBeggar_39 : decode cX4_readBeggar 39 = .ok (.iconst 1, 1) := by decide +kernel
theorem dX4_readBeggar_40 : decode cX4_readBeggar 40 = .ok (.goto 4, 3) := by decide +kernel
theorem dX4_readBeggar_43 : decode cX4_readBeggar 43 = .ok (.iconst 0, 1) := by decide +kernel
theorem dX4_readBeggar_44 : decode cX4_readBeggar 44 = .ok (.ireturn, 1) := by decide +kernel
theorem dX4_readPost_0 : decode cX4_readPost 0 = .ok (.aload_n 1, 1) := by decide +kernel
theorem dX4_readPost_1 : decode cX4_readPost 1 = .ok (.aload_n 0, 1) := by decide +kernel
theorem dX4_readPost_2 : decode cX4_readPost 2 = .ok (.iconst 0, 1) := by decide +kernel
theorem dX4_readPost_3 : decode cX4_readPost 3 = .ok (.aload_n 1, 1) := by decide +kernel
theorem dX4_readPost_4 : decode cX4_readPost 4 = .ok (.getfield 56, 3) := by decide +kernel
theorem dX4_readPost_7 : decode cX4_readPost 7 = .ok (.iconst 1, 1) := by decide +kernel
theorem dX4_readPost_8 : decode cX4_readPost 8 = .ok (.isub, 1) := by decide +kernel
theorem dX4_readPost_9 : decode cX4_readPost 9 = .ok (.invokevirtual 73, 3) := by decide +kernel
theorem dX4_readPost_12 : decode cX4_readPost 12 = .ok (.invokevirtual 84, 3) := by decide +kernel
theorem dX4_readPost_15 : decode cX4_readPost 15 = .ok (.astore_n 2, 1) := by decide +kernel
theorem dX4_readPost_16 : decode cX4_readPost 16 = .ok (.aload_n 2, 1) := by decide +kernel
theorem dX4_readPost_17 : decode cX4_readPost 17 = .ok (.ifnonnull 5, 3) := by decide +kernel
theorem dX4_readPost_20 : decode cX4_readPost 20 = .ok (.iconst 0, 1) := by decide +kernel
theorem dX4_readPost_21 : decode cX4_readPost 21 = .ok (.ireturn, 1) := by decide +kernel
theorem dX4_readPost_22 : decode cX4_readPost 22 = .ok (.aload_n 2, 1) := by decide +kernel
theorem dX4_readPost_23 : decode cX4_readPost 23 = .ok (.iconst 1, 1) := by decide +kernel
theorem dX4_readPost_24 : decode cX4_readPost 24 = .ok (.putfield 88, 3) := by decide +kernel
theorem dX4_readPost_27 : decode cX4_readPost 27 = .ok (.iconst 1, 1) := by decide +kernel
theorem dX4_readPost_28 : decode cX4_readPost 28 = .ok (.ireturn, 1) := by decide +kernel
theorem dX4_readOfCitizen_0 : decode cX4_readOfCitizen 0 = .ok (.aload_n 1, 1) := by decide +kernel
theorem dX4_readOfCitizen_1 : decode cX4_readOfCitizen 1 = .ok (.aload_n 0, 1) := by decide +kernel
theorem dX4_readOfCitizen_2 : decode cX4_readOfCitizen 2 = .ok (.iconst 0, 1) := by decide +kernel
theorem dX4_readOfCitizen_3 : decode cX4_readOfCitizen 3 = .ok (.aload_n 1, 1) := by decide +kernel
theorem dX4_readOfCitizen_4 : decode cX4_readOfCitizen 4 = .ok (.getfield 44, 3) := by decide +kernel
theorem dX4_readOfCitizen_7 : decode cX4_readOfCitizen 7 = .ok (.iconst 1, 1) := by decide +kernel
theorem dX4_readOfCitizen_8 : decode cX4_readOfCitizen 8 = .ok (.isub, 1) := by decide +kernel
theorem dX4_readOfCitizen_9 : decode cX4_readOfCitizen 9 = .ok (.invokevirtual 73, 3) := by decide +kernel
theorem dX4_readOfCitizen_12 : decode cX4_readOfCitizen 12 = .ok (.invokevirtual 94, 3) := by decide +kernel
theorem dX4_readOfCitizen_15 : decode cX4_readOfCitizen 15 = .ok (.astore_n 3, 1) := by decide +kernel
theorem dX4_readOfCitizen_16 : decode cX4_readOfCitizen 16 = .ok (.aload_n 3, 1) := by decide +kernel
theorem dX4_readOfCitizen_17 : decode cX4_readOfCitizen 17 = .ok (.ifnonnull 5, 3) := by decide +kernel
theorem dX4_readOfCitizen_20 : decode cX4_readOfCitizen 20 = .ok (.iconst 0, 1) := by decide +kernel
theorem dX4_readOfCitizen_21 : decode cX4_readOfCitizen 21 = .ok (.ireturn, 1) := by decide +kernel
theorem dX4_readOfCitizen_22 : decode cX4_readOfCitizen 22 = .ok (.iload_n 2, 1) := by decide +kernel
theorem dX4_readOfCitizen_23 : decode cX4_readOfCitizen 23 = .ok (.iconst 2, 1) := by decide +kernel
theorem dX4_readOfCitizen_24 : decode cX4_readOfCitizen 24 = .ok (.if_icmp .eq 19, 3) := by decide +kernel
theorem dX4_readOfCitizen_27 : decode cX4_readOfCitizen 27 = .ok (.aload_n 3, 1) := by decide +kernel
theorem dX4_readOfCitizen_28 : decode cX4_readOfCitizen 28 = .ok (.iload_n 2, 1) := by decide +kernel
theorem dX4_readOfCitizen_29 : decode cX4_readOfCitizen 29 = .ok (.iconst 3, 1) := by decide +kernel
theorem dX4_readOfCitizen_30 : decode cX4_readOfCitizen 30 = .ok (.if_icmp .ne 7, 3) := by decide +kernel
theorem dX4_readOfCitizen_33 : decode cX4_readOfCitizen 33 = .ok (.iconst 1, 1) := by decide +kernel
theorem dX4_readOfCitizen_34 : decode cX4_readOfCitizen 34 = .ok (.goto 4, 3) := by decide +kernel
theorem dX4_readOfCitizen_37 : decode cX4_readOfCitizen 37 = .ok (.iconst 0, 1) := by decide +kernel
theorem dX4_readOfCitizen_38 : decode cX4_readOfCitizen 38 = .ok (.putfield 98, 3) := by decide +kernel
theorem dX4_readOfCitizen_41 : decode cX4_readOfCitizen 41 = .ok (.iconst 1, 1) := by decide +kernel
theorem dX4_readOfCitizen_42 : decode cX4_readOfCitizen 42 = .ok (.ireturn, 1) := by decide +kernel
theorem dX4_readOfCitizen_43 : decode cX4_readOfCitizen 43 = .ok (.aload_n 0, 1) := by decide +kernel
theorem dX4_readOfCitizen_44 : decode cX4_readOfCitizen 44 = .ok (.iconst 0, 1) := by decide +kernel
theorem dX4_readOfCitizen_45 : decode cX4_readOfCitizen 45 = .ok (.bipush 99, 2) := by decide +kernel
theorem dX4_readOfCitizen_47 : decode cX4_readOfCitizen 47 = .ok (.invokevirtual 73, 3) := by decide +kernel
theorem dX4_readOfCitizen_50 : decode cX4_readOfCitizen 50 = .ok (.istore 4, 2) := by decide +kernel
theorem dX4_readOfCitizen_52 : decode cX4_readOfCitizen 52 = .ok (.iload 4, 2) := by decide +kernel
theorem dX4_readOfCitizen_54 : decode cX4_readOfCitizen 54 = .ok (.iconst (-1), 1) := by decide +kernel
theorem dX4_readOfCitizen_55 : decode cX4_readOfCitizen 55 = .ok (.if_icmp .ne 5, 3) := by decide +kernel
theorem dX4_readOfCitizen_58 : decode cX4_readOfCitizen 58 = .ok (.iconst 0, 1) := by decide +kernel
theorem dX4_readOfCitizen_59 : decode cX4_readOfCitizen 59 = .ok (.ireturn, 1) := by decide +kernel
theorem dX4_readOfCitizen_60 : decode cX4_readOfCitizen 60 = .ok (.aload_n 3, 1) := by decide +kernel
theorem dX4_readOfCitizen_61 : decode cX4_readOfCitizen 61 = .ok (.iload 4, 2) := by decide +kernel
theorem dX4_readOfCitizen_63 : decode cX4_readOfCitizen 63 = .ok (.putfield 103, 3) := by decide +kernel
theorem dX4_readOfCitizen_66 : decode cX4_readOfCitizen 66 = .ok (.iconst 1, 1) := by decide +kernel
theorem dX4_readOfCitizen_67 : decode cX4_readOfCitizen 67 = .ok (.ireturn, 1) := by decide +kernel
theorem dX4_readWord_0 : decode cX4_readWord 0 = .ok (.iconst 0, 1) := by decide +kernel
theorem dX4_readWord_1 : decode cX4_readWord 1 = .ok (.istore_n 1, 1) := by decide +kernel
theorem dX4_readWord_2 : decode cX4_readWord 2 = .ok (.iconst 0, 1) := by decide +kernel
theorem dX4_readWord_3 : decode cX4_readWord 3 = .ok (.istore_n 2, 1) := by decide +kernel
theorem dX4_readWord_4 : decode cX4_readWord 4 = .ok (.iload_n 2, 1) := by decide +kernel
theorem dX4_readWord_5 : decode cX4_readWord 5 = .ok (.bipush 6, 2) := by decide +kernel
theorem dX4_readWord_7 : decode cX4_readWord 7 = .ok (.if_icmp .ge 50, 3) := by decide +kernel
theorem dX4_readWord_10 : decode cX4_readWord 10 = .ok (.iload_n 2, 1) := by decide +kernel
theorem dX4_readWord_11 : decode cX4_readWord 11 = .ok (.invokestatic 106, 3) := by decide +kernel
theorem dX4_readWord_14 : decode cX4_readWord 14 = .ok (.astore_n 3, 1) := by decide +kernel
theorem dX4_readWord_15 : decode cX4_readWord 15 = .ok (.aload_n 0, 1) := by decide +kernel
theorem dX4_readWord_16 : decode cX4_readWord 16 = .ok (.aload_n 3, 1) := by decide +kernel
theorem dX4_readWord_17 : decode cX4_readWord 17 = .ok (.invokevirtual 110, 3) := by decide +kernel
theorem dX4_readWord_20 : decode cX4_readWord 20 = .ok (.istore 4, 2) := by decide +kernel
theorem dX4_readWord_22 : decode cX4_readWord 22 = .ok (.iload 4, 2) := by decide +kernel
theorem dX4_readWord_24 : decode cX4_readWord 24 = .ok (.aload_n 3, 1) := by decide +kernel
theorem dX4_readWord_25 : decode cX4_readWord 25 = .ok (.invokevirtual 114, 3) := by decide +kernel
theorem dX4_readWord_28 : decode cX4_readWord 28 = .ok (.if_icmp .ne 16, 3) := by decide +kernel
theorem dX4_readWord_31 : decode cX4_readWord 31 = .ok (.aload_n 0, 1) := by decide +kernel
theorem dX4_readWord_32 : decode cX4_readWord 32 = .ok (.dup, 1) := by decide +kernel
theorem dX4_readWord_33 : decode cX4_readWord 33 = .ok (.getfield 29, 3) := by decide +kernel
theorem dX4_readWord_36 : decode cX4_readWord 36 = .ok (.iload 4, 2) := by decide +kernel
theorem dX4_readWord_38 : decode cX4_readWord 38 = .ok (.iadd, 1) := by decide +kernel
theorem dX4_readWord_39 : decode cX4_readWord 39 = .ok (.putfield 29, 3) := by decide +kernel
theorem dX4_readWord_42 : decode cX4_readWord 42 = .ok (.iload_n 2, 1) := by decide +kernel
theorem dX4_readWord_43 : decode cX4_readWord 43 = .ok (.ireturn, 1) := by decide +kernel
theorem dX4_readWord_44 : decode cX4_readWord 44 = .ok (.iload_n 1, 1) := by decide +kernel
theorem dX4_readWord_45 : decode cX4_readWord 45 = .ok (.iload 4, 2) := by decide +kernel
theorem dX4_readWord_47 : decode cX4_readWord 47 = .ok (.invokestatic 118, 3) := by decide +kernel
theorem dX4_readWord_50 : decode cX4_readWord 50 = .ok (.istore_n 1, 1) := by decide +kernel
theorem dX4_readWord_51 : decode cX4_readWord 51 = .ok (.iinc 2 1, 3) := by decide +kernel
theorem dX4_readWord_54 : decode cX4_readWord 54 = .ok (.goto (-50), 3) := by decide +kernel
theorem dX4_readWord_57 : decode cX4_readWord 57 = .ok (.aload_n 0, 1) := by decide +kernel
theorem dX4_readWord_58 : decode cX4_readWord 58 = .ok (.aload_n 0, 1) := by decide +kernel
theorem dX4_readWord_59 : decode cX4_readWord 59 = .ok (.getfield 29, 3) := by decide +kernel
theorem dX4_readWord_62 : decode cX4_readWord 62 = .ok (.iload_n 1, 1) := by decide +kernel
theorem dX4_readWord_63 : decode cX4_readWord 63 = .ok (.iadd, 1) := by decide +kernel
theorem dX4_readWord_64 : decode cX4_readWord 64 = .ok (.invokevirtual 69, 3) := by decide +kernel
theorem dX4_readWord_67 : decode cX4_readWord 67 = .ok (.pop, 1) := by decide +kernel
theorem dX4_readWord_68 : decode cX4_readWord 68 = .ok (.iconst (-1), 1) := by decide +kernel
theorem dX4_readWord_69 : decode cX4_readWord 69 = .ok (.ireturn, 1) := by decide +kernel
theorem dX4_wordAt_0 : decode cX4_wordAt 0 = .ok (.iload_n 0, 1) := by decide +kernel
theorem dX4_wordAt_1 : decode cX4_wordAt 1 = .ok (.tableswitch 50 0 4 #[35, 38, 41, 44, 47], 35) := by decide +kernel
theorem dX4_wordAt_36 : decode cX4_wordAt 36 = .ok (.ldc 123, 2) := by decide +kernel
theorem dX4_wordAt_38 : decode cX4_wordAt 38 = .ok (.areturn, 1) := by decide +kernel
theorem dX4_wordAt_39 : decode cX4_wordAt 39 = .ok (.ldc 125, 2) := by decide +kernel
theorem dX4_wordAt_41 : decode cX4_wordAt 41 = .ok (.areturn, 1) := by decide +kernel
theorem dX4_wordAt_42 : decode cX4_wordAt 42 = .ok (.ldc 127, 2) := by decide +kernel
theorem dX4_wordAt_44 : decode cX4_wordAt 44 = .ok (.areturn, 1) := by decide +kernel
theorem dX4_wordAt_45 : decode cX4_wordAt 45 = .ok (.ldc 128, 2) := by decide +kernel
theorem dX4_wordAt_47 : decode cX4_wordAt 47 = .ok (.areturn, 1) := by decide +kernel
theorem dX4_wordAt_48 : decode cX4_wordAt 48 = .ok (.ldc 130, 2) := by decide +kernel
theorem dX4_wordAt_50 : decode cX4_wordAt 50 = .ok (.areturn, 1) := by decide +kernel
theorem dX4_wordAt_51 : decode cX4_wordAt 51 = .ok (.ldc 132, 2) := by decide +kernel
theorem dX4_wordAt_53 : decode cX4_wordAt 53 = .ok (.areturn, 1) := by decide +kernel
theorem dX4_countLetters_0 : decode cX4_countLetters 0 = .ok (.iconst 0, 1) := by decide +kernel
theorem dX4_countLetters_1 : decode cX4_countLetters 1 = .ok (.istore_n 2, 1) := by decide +kernel
theorem dX4_countLetters_2 : decode cX4_countLetters 2 = .ok (.iload_n 2, 1) := by decide +kernel
theorem dX4_countLetters_3 : decode cX4_countLetters 3 = .ok (.aload_n 1, 1) := by decide +kernel
theorem dX4_countLetters_4 : decode cX4_countLetters 4 = .ok (.invokevirtual 114, 3) := by decide +kernel
theorem dX4_countLetters_7 : decode cX4_countLetters 7 = .ok (.if_icmp .ge 27, 3) := by decide +kernel
theorem dX4_countLetters_10 : decode cX4_countLetters 10 = .ok (.aload_n 0, 1) := by decide +kernel
theorem dX4_countLetters_11 : decode cX4_countLetters 11 = .ok (.aload_n 0, 1) := by decide +kernel
theorem dX4_countLetters_12 : decode cX4_countLetters 12 = .ok (.getfield 29, 3) := by decide +kernel
theorem dX4_countLetters_15 : decode cX4_countLetters 15 = .ok (.iload_n 2, 1) := by decide +kernel
theorem dX4_countLetters_16 : decode cX4_countLetters 16 = .ok (.iadd, 1) := by decide +kernel
theorem dX4_countLetters_17 : decode cX4_countLetters 17 = .ok (.invokevirtual 134, 3) := by decide +kernel
theorem dX4_countLetters_20 : decode cX4_countLetters 20 = .ok (.aload_n 1, 1) := by decide +kernel
theorem dX4_countLetters_21 : decode cX4_countLetters 21 = .ok (.iload_n 2, 1) := by decide +kernel
theorem dX4_countLetters_22 : decode cX4_countLetters 22 = .ok (.invokevirtual 137, 3) := by decide +kernel
theorem dX4_countLetters_25 : decode cX4_countLetters 25 = .ok (.if_icmp .ne 9, 3) := by decide +kernel
theorem dX4_countLetters_28 : decode cX4_countLetters 28 = .ok (.iinc 2 1, 3) := by decide +kernel
theorem dX4_countLetters_31 : decode cX4_countLetters 31 = .ok (.goto (-29), 3) := by decide +kernel
theorem dX4_countLetters_34 : decode cX4_countLetters 34 = .ok (.iload_n 2, 1) := by decide +kernel
theorem dX4_countLetters_35 : decode cX4_countLetters 35 = .ok (.ireturn, 1) := by decide +kernel
theorem dX4_readNumber_0 : decode cX4_readNumber 0 = .ok (.aload_n 0, 1) := by decide +kernel
theorem dX4_readNumber_1 : decode cX4_readNumber 1 = .ok (.bipush 32, 2) := by decide +kernel
theorem dX4_readNumber_3 : decode cX4_readNumber 3 = .ok (.invokevirtual 36, 3) := by decide +kernel
theorem dX4_readNumber_6 : decode cX4_readNumber 6 = .ok (.ifCond .ne 5, 3) := by decide +kernel
theorem dX4_readNumber_9 : decode cX4_readNumber 9 = .ok (.iconst (-1), 1) := by decide +kernel
theorem dX4_readNumber_10 : decode cX4_readNumber 10 = .ok (.ireturn, 1) := by decide +kernel
theorem dX4_readNumber_11 : decode cX4_readNumber 11 = .ok (.aload_n 0, 1) := by decide +kernel
theorem dX4_readNumber_12 : decode cX4_readNumber 12 = .ok (.getfield 29, 3) := by decide +kernel
theorem dX4_readNumber_15 : decode cX4_readNumber 15 = .ok (.istore_n 3, 1) := by decide +kernel
theorem dX4_readNumber_16 : decode cX4_readNumber 16 = .ok (.aload_n 0, 1) := by decide +kernel
theorem dX4_readNumber_17 : decode cX4_readNumber 17 = .ok (.aload_n 0, 1) := by decide +kernel
theorem dX4_readNumber_18 : decode cX4_readNumber 18 = .ok (.getfield 29, 3) := by decide +kernel
theorem dX4_readNumber_21 : decode cX4_readNumber 21 = .ok (.invokevirtual 141, 3) := by decide +kernel
theorem dX4_readNumber_24 : decode cX4_readNumber 24 = .ok (.ifCond .ne 14, 3) := by decide +kernel
theorem dX4_readNumber_27 : decode cX4_readNumber 27 = .ok (.aload_n 0, 1) := by decide +kernel
theorem dX4_readNumber_28 : decode cX4_readNumber 28 = .ok (.aload_n 0, 1) := by decide +kernel
theorem dX4_readNumber_29 : decode cX4_readNumber 29 = .ok (.getfield 29, 3) := by decide +kernel
theorem dX4_readNumber_32 : decode cX4_readNumber 32 = .ok (.invokevirtual 69, 3) := by decide +kernel
theorem dX4_readNumber_35 : decode cX4_readNumber 35 = .ok (.pop, 1) := by decide +kernel
theorem dX4_readNumber_36 : decode cX4_readNumber 36 = .ok (.iconst (-1), 1) := by decide +kernel
theorem dX4_readNumber_37 : decode cX4_readNumber 37 = .ok (.ireturn, 1) := by decide +kernel
theorem dX4_readNumber_38 : decode cX4_readNumber 38 = .ok (.aload_n 0, 1) := by decide +kernel
theorem dX4_readNumber_39 : decode cX4_readNumber 39 = .ok (.aload_n 0, 1) := by decide +kernel
theorem dX4_readNumber_40 : decode cX4_readNumber 40 = .ok (.getfield 29, 3) := by decide +kernel
theorem dX4_readNumber_43 : decode cX4_readNumber 43 = .ok (.invokevirtual 134, 3) := by decide +kernel
theorem dX4_readNumber_46 : decode cX4_readNumber 46 = .ok (.bipush 48, 2) := by decide +kernel
theorem dX4_readNumber_48 : decode cX4_readNumber 48 = .ok (.isub, 1) := by decide +kernel
theorem dX4_readNumber_49 : decode cX4_readNumber 49 = .ok (.istore 4, 2) := by decide +kernel
theorem dX4_readNumber_51 : decode cX4_readNumber 51 = .ok (.aload_n 0, 1) := by decide +kernel
theorem dX4_readNumber_52 : decode cX4_readNumber 52 = .ok (.dup, 1) := by decide +kernel
theorem dX4_readNumber_53 : decode cX4_readNumber 53 = .ok (.getfield 29, 3) := by decide +kernel
theorem dX4_readNumber_56 : decode cX4_readNumber 56 = .ok (.iconst 1, 1) := by decide +kernel
theorem dX4_readNumber_57 : decode cX4_readNumber 57 = .ok (.iadd, 1) := by decide +kernel
theorem dX4_readNumber_58 : decode cX4_readNumber 58 = .ok (.putfield 29, 3) := by decide +kernel
theorem dX4_readNumber_61 : decode cX4_readNumber 61 = .ok (.aload_n 0, 1) := by decide +kernel
theorem dX4_readNumber_62 : decode cX4_readNumber 62 = .ok (.aload_n 0, 1) := by decide +kernel
theorem dX4_readNumber_63 : decode cX4_readNumber 63 = .ok (.getfield 29, 3) := by decide +kernel
theorem dX4_readNumber_66 : decode cX4_readNumber 66 = .ok (.invokevirtual 141, 3) := by decide +kernel
theorem dX4_readNumber_69 : decode cX4_readNumber 69 = .ok (.ifCond .eq 32, 3) := by decide +kernel
theorem dX4_readNumber_72 : decode cX4_readNumber 72 = .ok (.iload 4, 2) := by decide +kernel
theorem dX4_readNumber_74 : decode cX4_readNumber 74 = .ok (.bipush 10, 2) := by decide +kernel
theorem dX4_readNumber_76 : decode cX4_readNumber 76 = .ok (.imul, 1) := by decide +kernel
theorem dX4_readNumber_77 : decode cX4_readNumber 77 = .ok (.aload_n 0, 1) := by decide +kernel
theorem dX4_readNumber_78 : decode cX4_readNumber 78 = .ok (.aload_n 0, 1) := by decide +kernel
theorem dX4_readNumber_79 : decode cX4_readNumber 79 = .ok (.getfield 29, 3) := by decide +kernel
theorem dX4_readNumber_82 : decode cX4_readNumber 82 = .ok (.invokevirtual 134, 3) := by decide +kernel
theorem dX4_readNumber_85 : decode cX4_readNumber 85 = .ok (.iadd, 1) := by decide +kernel
theorem dX4_readNumber_86 : decode cX4_readNumber 86 = .ok (.bipush 48, 2) := by decide +kernel
theorem dX4_readNumber_88 : decode cX4_readNumber 88 = .ok (.isub, 1) := by decide +kernel
theorem dX4_readNumber_89 : decode cX4_readNumber 89 = .ok (.istore 4, 2) := by decide +kernel
theorem dX4_readNumber_91 : decode cX4_readNumber 91 = .ok (.aload_n 0, 1) := by decide +kernel
theorem dX4_readNumber_92 : decode cX4_readNumber 92 = .ok (.dup, 1) := by decide +kernel
theorem dX4_readNumber_93 : decode cX4_readNumber 93 = .ok (.getfield 29, 3) := by decide +kernel
theorem dX4_readNumber_96 : decode cX4_readNumber 96 = .ok (.iconst 1, 1) := by decide +kernel
theorem dX4_readNumber_97 : decode cX4_readNumber 97 = .ok (.iadd, 1) := by decide +kernel
theorem dX4_readNumber_98 : decode cX4_readNumber 98 = .ok (.putfield 29, 3) := by decide +kernel
theorem dX4_readNumber_101 : decode cX4_readNumber 101 = .ok (.iload 4, 2) := by decide +kernel
theorem dX4_readNumber_103 : decode cX4_readNumber 103 = .ok (.iload_n 1, 1) := by decide +kernel
theorem dX4_readNumber_104 : decode cX4_readNumber 104 = .ok (.iload_n 2, 1) := by decide +kernel
theorem dX4_readNumber_105 : decode cX4_readNumber 105 = .ok (.invokestatic 144, 3) := by decide +kernel
theorem dX4_readNumber_108 : decode cX4_readNumber 108 = .ok (.ifCond .eq 11, 3) := by decide +kernel
theorem dX4_readNumber_111 : decode cX4_readNumber 111 = .ok (.aload_n 0, 1) := by decide +kernel
theorem dX4_readNumber_112 : decode cX4_readNumber 112 = .ok (.iload_n 3, 1) := by decide +kernel
theorem dX4_readNumber_113 : decode cX4_readNumber 113 = .ok (.invokevirtual 69, 3) := by decide +kernel
theorem dX4_readNumber_116 : decode cX4_readNumber 116 = .ok (.pop, 1) := by decide +kernel
theorem dX4_readNumber_117 : decode cX4_readNumber 117 = .ok (.iconst (-1), 1) := by decide +kernel
theorem dX4_readNumber_118 : decode cX4_readNumber 118 = .ok (.ireturn, 1) := by decide +kernel
theorem dX4_readNumber_119 : decode cX4_readNumber 119 = .ok (.iload 4, 2) := by decide +kernel
theorem dX4_readNumber_121 : decode cX4_readNumber 121 = .ok (.ireturn, 1) := by decide +kernel
theorem dX4_readSign_0 : decode cX4_readSign 0 = .ok (.aload_n 0, 1) := by decide +kernel
theorem dX4_readSign_1 : decode cX4_readSign 1 = .ok (.aload_n 0, 1) := by decide +kernel
theorem dX4_readSign_2 : decode cX4_readSign 2 = .ok (.getfield 29, 3) := by decide +kernel
theorem dX4_readSign_5 : decode cX4_readSign 5 = .ok (.invokevirtual 134, 3) := by decide +kernel
theorem dX4_readSign_8 : decode cX4_readSign 8 = .ok (.iload_n 1, 1) := by decide +kernel
theorem dX4_readSign_9 : decode cX4_readSign 9 = .ok (.if_icmp .eq 12, 3) := by decide +kernel
theorem dX4_readSign_12 : decode cX4_readSign 12 = .ok (.aload_n 0, 1) := by decide +kernel
theorem dX4_readSign_13 : decode cX4_readSign 13 = .ok (.aload_n 0, 1) := by decide +kernel
theorem dX4_readSign_14 : decode cX4_readSign 14 = .ok (.getfield 29, 3) := by decide +kernel
theorem dX4_readSign_17 : decode cX4_readSign 17 = .ok (.invokevirtual 69, 3) := by decide +kernel
theorem dX4_readSign_20 : decode cX4_readSign 20 = .ok (.ireturn, 1) := by decide +kernel
theorem dX4_readSign_21 : decode cX4_readSign 21 = .ok (.aload_n 0, 1) := by decide +kernel
theorem dX4_readSign_22 : decode cX4_readSign 22 = .ok (.dup, 1) := by decide +kernel
theorem dX4_readSign_23 : decode cX4_readSign 23 = .ok (.getfield 29, 3) := by decide +kernel
theorem dX4_readSign_26 : decode cX4_readSign 26 = .ok (.iconst 1, 1) := by decide +kernel
theorem dX4_readSign_27 : decode cX4_readSign 27 = .ok (.iadd, 1) := by decide +kernel
theorem dX4_readSign_28 : decode cX4_readSign 28 = .ok (.putfield 29, 3) := by decide +kernel
theorem dX4_readSign_31 : decode cX4_readSign 31 = .ok (.iconst 1, 1) := by decide +kernel
theorem dX4_readSign_32 : decode cX4_readSign 32 = .ok (.ireturn, 1) := by decide +kernel
theorem dX4_isDigit_0 : decode cX4_isDigit 0 = .ok (.aload_n 0, 1) := by decide +kernel
theorem dX4_isDigit_1 : decode cX4_isDigit 1 = .ok (.iload_n 1, 1) := by decide +kernel
theorem dX4_isDigit_2 : decode cX4_isDigit 2 = .ok (.invokevirtual 134, 3) := by decide +kernel
theorem dX4_isDigit_5 : decode cX4_isDigit 5 = .ok (.bipush 48, 2) := by decide +kernel
theorem dX4_isDigit_7 : decode cX4_isDigit 7 = .ok (.if_icmp .lt 17, 3) := by decide +kernel
theorem dX4_isDigit_10 : decode cX4_isDigit 10 = .ok (.aload_n 0, 1) := by decide +kernel
theorem dX4_isDigit_11 : decode cX4_isDigit 11 = .ok (.iload_n 1, 1) := by decide +kernel
theorem dX4_isDigit_12 : decode cX4_isDigit 12 = .ok (.invokevirtual 134, 3) := by decide +kernel
theorem dX4_isDigit_15 : decode cX4_isDigit 15 = .ok (.bipush 57, 2) := by decide +kernel
theorem dX4_isDigit_17 : decode cX4_isDigit 17 = .ok (.if_icmp .gt 7, 3) := by decide +kernel
theorem dX4_isDigit_20 : decode cX4_isDigit 20 = .ok (.iconst 1, 1) := by decide +kernel
theorem dX4_isDigit_21 : decode cX4_isDigit 21 = .ok (.goto 4, 3) := by decide +kernel
theorem dX4_isDigit_24 : decode cX4_isDigit 24 = .ok (.iconst 0, 1) := by decide +kernel
theorem dX4_isDigit_25 : decode cX4_isDigit 25 = .ok (.ireturn, 1) := by decide +kernel
theorem dX4_signAt_0 : decode cX4_signAt 0 = .ok (.iload_n 1, 1) := by decide +kernel
theorem dX4_signAt_1 : decode cX4_signAt 1 = .ok (.ifCond .lt 29, 3) := by decide +kernel
theorem dX4_signAt_4 : decode cX4_signAt 4 = .ok (.iload_n 1, 1) := by decide +kernel
theorem dX4_signAt_5 : decode cX4_signAt 5 = .ok (.aload_n 0, 1) := by decide +kernel
theorem dX4_signAt_6 : decode cX4_signAt 6 = .ok (.getfield 24, 3) := by decide +kernel
theorem dX4_signAt_9 : decode cX4_signAt 9 = .ok (.if_icmp .ge 21, 3) := by decide +kernel
theorem dX4_signAt_12 : decode cX4_signAt 12 = .ok (.iload_n 1, 1) := by decide +kernel
theorem dX4_signAt_13 : decode cX4_signAt 13 = .ok (.aload_n 0, 1) := by decide +kernel
theorem dX4_signAt_14 : decode cX4_signAt 14 = .ok (.getfield 9, 3) := by decide +kernel
theorem dX4_signAt_17 : decode cX4_signAt 17 = .ok (.arraylength, 1) := by decide +kernel
theorem dX4_signAt_18 : decode cX4_signAt 18 = .ok (.if_icmp .ge 12, 3) := by decide +kernel
theorem dX4_signAt_21 : decode cX4_signAt 21 = .ok (.aload_n 0, 1) := by decide +kernel
theorem dX4_signAt_22 : decode cX4_signAt 22 = .ok (.getfield 9, 3) := by decide +kernel
theorem dX4_signAt_25 : decode cX4_signAt 25 = .ok (.iload_n 1, 1) := by decide +kernel
theorem dX4_signAt_26 : decode cX4_signAt 26 = .ok (.iaload, 1) := by decide +kernel
theorem dX4_signAt_27 : decode cX4_signAt 27 = .ok (.goto 4, 3) := by decide +kernel
theorem dX4_signAt_30 : decode cX4_signAt 30 = .ok (.iconst (-1), 1) := by decide +kernel
theorem dX4_signAt_31 : decode cX4_signAt 31 = .ok (.ireturn, 1) := by decide +kernel
theorem dX4_failAt_0 : decode cX4_failAt 0 = .ok (.aload_n 0, 1) := by decide +kernel
theorem dX4_failAt_1 : decode cX4_failAt 1 = .ok (.iload_n 1, 1) := by decide +kernel
theorem dX4_failAt_2 : decode cX4_failAt 2 = .ok (.putfield 15, 3) := by decide +kernel
theorem dX4_failAt_5 : decode cX4_failAt 5 = .ok (.iconst 0, 1) := by decide +kernel
theorem dX4_failAt_6 : decode cX4_failAt 6 = .ok (.ireturn, 1) := by decide +kernel
