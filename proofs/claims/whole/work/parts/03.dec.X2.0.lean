/-! decode rows -/
theorem dX2_init_0 : decode cX2_init 0 = .ok (.aload_n 0, 1) := by decide +kernel
theorem dX2_init_1 : decode cX2_init 1 = .ok (.invokespecial 3, 3) := by decide +kernel
theorem dX2_init_4 : decode cX2_init 4 = .ok (.aload_n 0, 1) := by decide +kernel
theorem dX2_init_5 : decode cX2_init 5 = .ok (.bipush 6, 2) := by decide +kernel
theorem dX2_init_7 : decode cX2_init 7 = .ok (.anewarray 9, 3) := by decide +kernel
theorem dX2_init_10 : decode cX2_init 10 = .ok (.putfield 11, 3) := by decide +kernel
theorem dX2_init_13 : decode cX2_init 13 = .ok (.aload_n 0, 1) := by decide +kernel
theorem dX2_init_14 : decode cX2_init 14 = .ok (.bipush 6, 2) := by decide +kernel
theorem dX2_init_16 : decode cX2_init 16 = .ok (.anewarray 17, 3) := by decide +kernel
theorem dX2_init_19 : decode cX2_init 19 = .ok (.putfield 19, 3) := by decide +kernel
theorem dX2_init_22 : decode cX2_init 22 = .ok (.aload_n 0, 1) := by decide +kernel
theorem dX2_init_23 : decode cX2_init 23 = .ok (.iconst 1, 1) := by decide +kernel
theorem dX2_init_24 : decode cX2_init 24 = .ok (.putfield 23, 3) := by decide +kernel
theorem dX2_init_27 : decode cX2_init 27 = .ok (.iconst 0, 1) := by decide +kernel
theorem dX2_init_28 : decode cX2_init 28 = .ok (.istore_n 1, 1) := by decide +kernel
theorem dX2_init_29 : decode cX2_init 29 = .ok (.iload_n 1, 1) := by decide +kernel
theorem dX2_init_30 : decode cX2_init 30 = .ok (.aload_n 0, 1) := by decide +kernel
theorem dX2_init_31 : decode cX2_init 31 = .ok (.getfield 11, 3) := by decide +kernel
theorem dX2_init_34 : decode cX2_init 34 = .ok (.arraylength, 1) := by decide +kernel
theorem dX2_init_35 : decode cX2_init 35 = .ok (.if_icmp .ge 23, 3) := by decide +kernel
theorem dX2_init_38 : decode cX2_init 38 = .ok (.aload_n 0, 1) := by decide +kernel
theorem dX2_init_39 : decode cX2_init 39 = .ok (.getfield 11, 3) := by decide +kernel
theorem dX2_init_42 : decode cX2_init 42 = .ok (.iload_n 1, 1) := by decide +kernel
theorem dX2_init_43 : decode cX2_init 43 = .ok (.new 9, 3) := by decide +kernel
theorem dX2_init_46 : decode cX2_init 46 = .ok (.dup, 1) := by decide +kernel
theorem dX2_init_47 : decode cX2_init 47 = .ok (.iload_n 1, 1) := by decide +kernel
theorem dX2_init_48 : decode cX2_init 48 = .ok (.invokespecial 27, 3) := by decide +kernel
theorem dX2_init_51 : decode cX2_init 51 = .ok (.aastore, 1) := by decide +kernel
theorem dX2_init_52 : decode cX2_init 52 = .ok (.iinc 1 1, 3) := by decide +kernel
theorem dX2_init_55 : decode cX2_init 55 = .ok (.goto (-26), 3) := by decide +kernel
theorem dX2_init_58 : decode cX2_init 58 = .ok (.iconst 0, 1) := by decide +kernel
theorem dX2_init_59 : decode cX2_init 59 = .ok (.istore_n 1, 1) := by decide +kernel
theorem dX2_init_60 : decode cX2_init 60 = .ok (.iload_n 1, 1) := by decide +kernel
theorem dX2_init_61 : decode cX2_init 61 = .ok (.aload_n 0, 1) := by decide +kernel
theorem dX2_init_62 : decode cX2_init 62 = .ok (.getfield 19, 3) := by decide +kernel
theorem dX2_init_65 : decode cX2_init 65 = .ok (.arraylength, 1) := by decide +kernel
theorem dX2_init_66 : decode cX2_init 66 = .ok (.if_icmp .ge 23, 3) := by decide +kernel
theorem dX2_init_69 : decode cX2_init 69 = .ok (.aload_n 0, 1) := by decide +kernel
theorem dX2_init_70 : decode cX2_init 70 = .ok (.getfield 19, 3) := by decide +kernel
theorem dX2_init_73 : decode cX2_init 73 = .ok (.iload_n 1, 1) := by decide +kernel
theorem dX2_init_74 : decode cX2_init 74 = .ok (.new 17, 3) := by decide +kernel
theorem dX2_init_77 : decode cX2_init 77 = .ok (.dup, 1) := by decide +kernel
theorem dX2_init_78 : decode cX2_init 78 = .ok (.iload_n 1, 1) := by decide +kernel
theorem dX2_init_79 : decode cX2_init 79 = .ok (.invokespecial 30, 3) := by decide +kernel
theorem dX2_init_82 : decode cX2_init 82 = .ok (.aastore, 1) := by decide +kernel
theorem dX2_init_83 : decode cX2_init 83 = .ok (.iinc 1 1, 3) := by decide +kernel
theorem dX2_init_86 : decode cX2_init 86 = .ok (.goto (-26), 3) := by decide +kernel
theorem dX2_init_89 : decode cX2_init 89 = .ok (.return_, 1) := by decide +kernel
theorem dX2_become_0 : decode cX2_become 0 = .ok (.iconst 0, 1) := by decide +kernel
theorem dX2_become_1 : decode cX2_become 1 = .ok (.istore_n 2, 1) := by decide +kernel
theorem dX2_become_2 : decode cX2_become 2 = .ok (.iload_n 2, 1) := by decide +kernel
theorem dX2_become_3 : decode cX2_become 3 = .ok (.aload_n 0, 1) := by decide +kernel
theorem dX2_become_4 : decode cX2_become 4 = .ok (.getfield 11, 3) := by decide +kernel
theorem dX2_become_7 : decode cX2_become 7 = .ok (.arraylength, 1) := by decide +kernel
theorem dX2_become_8 : decode cX2_become 8 = .ok (.if_icmp .ge 33, 3) := by decide +kernel
theorem dX2_become_11 : decode cX2_become 11 = .ok (.iload_n 2, 1) := by decide +kernel
theorem dX2_become_12 : decode cX2_become 12 = .ok (.aload_n 1, 1) := by decide +kernel
theorem dX2_become_13 : decode cX2_become 13 = .ok (.getfield 11, 3) := by decide +kernel
theorem dX2_become_16 : decode cX2_become 16 = .ok (.arraylength, 1) := by decide +kernel
theorem dX2_become_17 : decode cX2_become 17 = .ok (.if_icmp .ge 24, 3) := by decide +kernel
theorem dX2_become_20 : decode cX2_become 20 = .ok (.aload_n 0, 1) := by decide +kernel
theorem dX2_become_21 : decode cX2_become 21 = .ok (.getfield 11, 3) := by decide +kernel
theorem dX2_become_24 : decode cX2_become 24 = .ok (.iload_n 2, 1) := by decide +kernel
theorem dX2_become_25 : decode cX2_become 25 = .ok (.aaload, 1) := by decide +kernel
theorem dX2_become_26 : decode cX2_become 26 = .ok (.aload_n 1, 1) := by decide +kernel
theorem dX2_become_27 : decode cX2_become 27 = .ok (.getfield 11, 3) := by decide +kernel
theorem dX2_become_30 : decode cX2_become 30 = .ok (.iload_n 2, 1) := by decide +kernel
theorem dX2_become_31 : decode cX2_become 31 = .ok (.aaload, 1) := by decide +kernel
theorem dX2_become_32 : decode cX2_become 32 = .ok (.invokevirtual 31, 3) := by decide +kernel
theorem dX2_become_35 : decode cX2_become 35 = .ok (.iinc 2 1, 3) := by decide +kernel
theorem dX2_become_38 : decode cX2_become 38 = .ok (.goto (-36), 3) := by decide +kernel
theorem dX2_become_41 : decode cX2_become 41 = .ok (.iconst 0, 1) := by decide +kernel
theorem dX2_become_42 : decode cX2_become 42 = .ok (.istore_n 2, 1) := by decide +kernel
theorem dX2_become_43 : decode cX2_become 43 = .ok (.iload_n 2, 1) := by decide +kernel
theorem dX2_become_44 : decode cX2_become 44 = .ok (.aload_n 0, 1) := by decide +kernel
theorem dX2_become_45 : decode cX2_become 45 = .ok (.getfield 19, 3) := by decide +kernel
theorem dX2_become_48 : decode cX2_become 48 = .ok (.arraylength, 1) := by decide +kernel
theorem dX2_become_49 : decode cX2_become 49 = .ok (.if_icmp .ge 33, 3) := by decide +kernel
theorem dX2_become_52 : decode cX2_become 52 = .ok (.iload_n 2, 1) := by decide +kernel
theorem dX2_become_53 : decode cX2_become 53 = .ok (.aload_n 1, 1) := by decide +kernel
theorem dX2_become_54 : decode cX2_become 54 = .ok (.getfield 19, 3) := by decide +kernel
theorem dX2_become_57 : decode cX2_become 57 = .ok (.arraylength, 1) := by decide +kernel
theorem dX2_become_58 : decode cX2_become 58 = .ok (.if_icmp .ge 24, 3) := by decide +kernel
theorem dX2_become_61 : decode cX2_become 61 = .ok (.aload_n 0, 1) := by decide +kernel
theorem dX2_become_62 : decode cX2_become 62 = .ok (.getfield 19, 3) := by decide +kernel
theorem dX2_become_65 : decode cX2_become 65 = .ok (.iload_n 2, 1) := by decide +kernel
theorem dX2_become_66 : decode cX2_become 66 = .ok (.aaload, 1) := by decide +kernel
theorem dX2_become_67 : decode cX2_become 67 = .ok (.aload_n 1, 1) := by decide +kernel
theorem dX2_become_68 : decode cX2_become 68 = .ok (.getfield 19, 3) := by decide +kernel
theorem dX2_become_71 : decode cX2_become 71 = .ok (.iload_n 2, 1) := by decide +kernel
theorem dX2_become_72 : decode cX2_become 72 = .ok (.aaload, 1) := by decide +kernel
theorem dX2_become_73 : decode cX2_become 73 = .ok (.invokevirtual 35, 3) := by decide +kernel
theorem dX2_become_76 : decode cX2_become 76 = .ok (.iinc 2 1, 3) := by decide +kernel
theorem dX2_become_79 : decode cX2_become 79 = .ok (.goto (-36), 3) := by decide +kernel
theorem dX2_become_82 : decode cX2_become 82 = .ok (.aload_n 0, 1) := by decide +kernel
theorem dX2_become_83 : decode cX2_become 83 = .ok (.aload_n 1, 1) := by decide +kernel
theorem dX2_become_84 : decode cX2_become 84 = .ok (.getfield 38, 3) := by decide +kernel
theorem dX2_become_87 : decode cX2_become 87 = .ok (.putfield 38, 3) := by decide +kernel
theorem dX2_become_90 : decode cX2_become 90 = .ok (.aload_n 0, 1) := by decide +kernel
theorem dX2_become_91 : decode cX2_become 91 = .ok (.aload_n 1, 1) := by decide +kernel
theorem dX2_become_92 : decode cX2_become 92 = .ok (.getfield 41, 3) := by decide +kernel
theorem dX2_become_95 : decode cX2_become 95 = .ok (.putfield 41, 3) := by decide +kernel
theorem dX2_become_98 : decode cX2_become 98 = .ok (.aload_n 0, 1) := by decide +kernel
theorem dX2_become_99 : decode cX2_become 99 = .ok (.aload_n 1, 1) := by decide +kernel
theorem dX2_become_100 : decode cX2_become 100 = .ok (.getfield 44, 3) := by decide +kernel
theorem dX2_become_103 : decode cX2_become 103 = .ok (.putfield 44, 3) := by decide +kernel
theorem dX2_become_106 : decode cX2_become 106 = .ok (.aload_n 0, 1) := by decide +kernel
theorem dX2_become_107 : decode cX2_become 107 = .ok (.aload_n 1, 1) := by decide +kernel
theorem dX2_become_108 : decode cX2_become 108 = .ok (.getfield 23, 3) := by decide +kernel
theorem dX2_become_111 : decode cX2_become 111 = .ok (.putfield 23, 3) := by decide +kernel
theorem dX2_become_114 : decode cX2_become 114 = .ok (.return_, 1) := by decide +kernel
theorem dX2_citizenAt_0 : decode cX2_citizenAt 0 = .ok (.iload_n 1, 1) := by decide +kernel
theorem dX2_citizenAt_1 : decode cX2_citizenAt 1 = .ok (.ifCond .lt 29, 3) := by decide +kernel
theorem dX2_citizenAt_4 : decode cX2_citizenAt 4 = .ok (.iload_n 1, 1) := by decide +kernel
theorem dX2_citizenAt_5 : decode cX2_citizenAt 5 = .ok (.aload_n 0, 1) := by decide +kernel
theorem dX2_citizenAt_6 : decode cX2_citizenAt 6 = .ok (.getfield 11, 3) := by decide +kernel
theorem dX2_citizenAt_9 : decode cX2_citizenAt 9 = .ok (.arraylength, 1) := by decide +kernel
theorem dX2_citizenAt_10 : decode cX2_citizenAt 10 = .ok (.if_icmp .ge 20, 3) := by decide +kernel
theorem dX2_citizenAt_13 : decode cX2_citizenAt 13 = .ok (.iload_n 1, 1) := by decide +kernel
theorem dX2_citizenAt_14 : decode cX2_citizenAt 14 = .ok (.aload_n 0, 1) := by decide +kernel
theorem dX2_citizenAt_15 : decode cX2_citizenAt 15 = .ok (.getfield 38, 3) := by decide +kernel
theorem dX2_citizenAt_18 : decode cX2_citizenAt 18 = .ok (.if_icmp .ge 12, 3) := by decide +kernel
theorem dX2_citizenAt_21 : decode cX2_citizenAt 21 = .ok (.aload_n 0, 1) := by decide +kernel
theorem dX2_citizenAt_22 : decode cX2_citizenAt 22 = .ok (.getfield 11, 3) := by decide +kernel
theorem dX2_citizenAt_25 : decode cX2_citizenAt 25 = .ok (.iload_n 1, 1) := by decide +kernel
theorem dX2_citizenAt_26 : decode cX2_citizenAt 26 = .ok (.aaload, 1) := by decide +kernel
theorem dX2_citizenAt_27 : decode cX2_citizenAt 27 = .ok (.goto 4, 3) := by decide +kernel
theorem dX2_citizenAt_30 : decode cX2_citizenAt 30 = .ok (.aconst_null, 1) := by decide +kernel
theorem dX2_citizenAt_31 : decode cX2_citizenAt 31 = .ok (.areturn, 1) := by decide +kernel
theorem dX2_beggarAt_0 : decode cX2_beggarAt 0 = .ok (.iload_n 1, 1) := by decide +kernel
theorem dX2_beggarAt_1 : decode cX2_beggarAt 1 = .ok (.ifCond .lt 29, 3) := by decide +kernel
theorem dX2_beggarAt_4 : decode cX2_beggarAt 4 = .ok (.iload_n 1, 1) := by decide +kernel
theorem dX2_beggarAt_5 : decode cX2_beggarAt 5 = .ok (.aload_n 0, 1) := by decide +kernel
theorem dX2_beggarAt_6 : decode cX2_beggarAt 6 = .ok (.getfield 19, 3) := by decide +kernel
theorem dX2_beggarAt_9 : decode cX2_beggarAt 9 = .ok (.arraylength, 1) := by decide +kernel
theorem dX2_beggarAt_10 : decode cX2_beggarAt 10 = .ok (.if_icmp .ge 20, 3) := by decide +kernel
theorem dX2_beggarAt_13 : decode cX2_beggarAt 13 = .ok (.iload_n 1, 1) := by decide +kernel
theorem dX2_beggarAt_14 : decode cX2_beggarAt 14 = .ok (.aload_n 0, 1) := by decide +kernel
theorem dX2_beggarAt_15 : decode cX2_beggarAt 15 = .ok (.getfield 41, 3) := by decide +kernel
theorem dX2_beggarAt_18 : decode cX2_beggarAt 18 = .ok (.if_icmp .ge 12, 3) := by decide +kernel
theorem dX2_beggarAt_21 : decode cX2_beggarAt 21 = .ok (.aload_n 0, 1) := by decide +kernel
theorem dX2_beggarAt_22 : decode cX2_beggarAt 22 = .ok (.getfield 19, 3) := by decide +kernel
theorem dX2_beggarAt_25 : decode cX2_beggarAt 25 = .ok (.iload_n 1, 1) := by decide +kernel
theorem dX2_beggarAt_26 : decode cX2_beggarAt 26 = .ok (.aaload, 1) := by decide +kernel
theorem dX2_beggarAt_27 : decode cX2_beggarAt 27 = .ok (.goto 4, 3) := by decide +kernel
theorem dX2_beggarAt_30 : decode cX2_beggarAt 30 = .ok (.aconst_null, 1) := by decide +kernel
theorem dX2_beggarAt_31 : decode cX2_beggarAt 31 = .ok (.areturn, 1) := by decide +kernel
theorem dX2_addCitizen_0 : decode cX2_addCitizen 0 = .ok (.aload_n 0, 1) := by decide +kernel
theorem dX2_addCitizen_1 : decode cX2_addCitizen 1 = .ok (.getfield 38, 3) := by decide +kernel
theorem dX2_addCitizen_4 : decode cX2_addCitizen 4 = .ok (.istore 5, 2) := by decide +kernel
theorem dX2_addCitizen_6 : decode cX2_addCitizen 6 = .ok (.iload 5, 2) := by decide +kernel
theorem dX2_addCitizen_8 : decode cX2_addCitizen 8 = .ok (.ifCond .lt 13, 3) := by decide +kernel
theorem dX2_addCitizen_11 : decode cX2_addCitizen 11 = .ok (.iload 5, 2) := by decide +kernel
theorem dX2_addCitizen_13 : decode cX2_addCitizen 13 = .ok (.aload_n 0, 1) := by decide +kernel
theorem dX2_addCitizen_14 : decode cX2_addCitizen 14 = .ok (.getfield 11, 3) := by decide +kernel
theorem dX2_addCitizen_17 : decode cX2_addCitizen 17 = .ok (.arraylength, 1) := by decide +kernel
theorem dX2_addCitizen_18 : decode cX2_addCitizen 18 = .ok (.if_icmp .lt 5, 3) := by decide +kernel
theorem dX2_addCitizen_21 : decode cX2_addCitizen 21 = .ok (.iconst (-1), 1) := by decide +kernel
theorem dX2_addCitizen_22 : decode cX2_addCitizen 22 = .ok (.ireturn, 1) := by decide +kernel
theorem dX2_addCitizen_23 : decode cX2_addCitizen 23 = .ok (.aload_n 0, 1) := by decide +kernel
theorem dX2_addCitizen_24 : decode cX2_addCitizen 24 = .ok (.getfield 11, 3) := by decide +kernel
theorem dX2_addCitizen_27 : decode cX2_addCitizen 27 = .ok (.iload 5, 2) := by decide +kernel
theorem dX2_addCitizen_29 : decode cX2_addCitizen 29 = .ok (.aaload, 1) := by decide +kernel
theorem dX2_addCitizen_30 : decode cX2_addCitizen 30 = .ok (.iload_n 1, 1) := by decide +kernel
theorem dX2_addCitizen_31 : decode cX2_addCitizen 31 = .ok (.iload_n 2, 1) := by decide +kernel
theorem dX2_addCitizen_32 : decode cX2_addCitizen 32 = .ok (.iload_n 3, 1) := by decide +kernel
theorem dX2_addCitizen_33 : decode cX2_addCitizen 33 = .ok (.iload 4, 2) := by decide +kernel
theorem dX2_addCitizen_35 : decode cX2_addCitizen 35 = .ok (.invokevirtual 47, 3) := by decide +kernel
theorem dX2_addCitizen_38 : decode cX2_addCitizen 38 = .ok (.aload_n 0, 1) := by decide +kernel
theorem dX2_addCitizen_39 : decode cX2_addCitizen 39 = .ok (.dup, 1) := by decide +kernel
theorem dX2_addCitizen_40 : decode cX2_addCitizen 40 = .ok (.getfield 38, 3) := by decide +kernel
theorem dX2_addCitizen_43 : decode cX2_addCitizen 43 = .ok (.iconst 1, 1) := by decide +kernel
theorem dX2_addCitizen_44 : decode cX2_addCitizen 44 = .ok (.iadd, 1) := by decide +kernel
theorem dX2_addCitizen_45 : decode cX2_addCitizen 45 = .ok (.putfield 38, 3) := by decide +kernel
theorem dX2_addCitizen_48 : decode cX2_addCitizen 48 = .ok (.iload 5, 2) := by decide +kernel
theorem dX2_addCitizen_50 : decode cX2_addCitizen 50 = .ok (.ireturn, 1) := by decide +kernel
theorem dX2_addBeggar_0 : decode cX2_addBeggar 0 = .ok (.aload_n 0, 1) := by decide +kernel
theorem dX2_addBeggar_1 : decode cX2_addBeggar 1 = .ok (.getfield 41, 3) := by decide +kernel
theorem dX2_addBeggar_4 : decode cX2_addBeggar 4 = .ok (.istore_n 3, 1) := by decide +kernel
theorem dX2_addBeggar_5 : decode cX2_addBeggar 5 = .ok (.iload_n 3, 1) := by decide +kernel
theorem dX2_addBeggar_6 : decode cX2_addBeggar 6 = .ok (.ifCond .lt 12, 3) := by decide +kernel
theorem dX2_addBeggar_9 : decode cX2_addBeggar 9 = .ok (.iload_n 3, 1) := by decide +kernel
theorem dX2_addBeggar_10 : decode cX2_addBeggar 10 = .ok (.aload_n 0, 1) := by decide +kernel
theorem dX2_addBeggar_11 : decode cX2_addBeggar 11 = .ok (.getfield 19, 3) := by decide +kernel
theorem dX2_addBeggar_14 : decode cX2_addBeggar 14 = .ok (.arraylength, 1) := by decide +kernel
theorem dX2_addBeggar_15 : decode cX2_addBeggar 15 = .ok (.if_icmp .lt 5, 3) := by decide +kernel
theorem dX2_addBeggar_18 : decode cX2_addBeggar 18 = .ok (.iconst (-1), 1) := by decide +kernel
theorem dX2_addBeggar_19 : decode cX2_addBeggar 19 = .ok (.ireturn, 1) := by decide +kernel
theorem dX2_addBeggar_20 : decode cX2_addBeggar 20 = .ok (.aload_n 0, 1) := by decide +kernel
theorem dX2_addBeggar_21 : decode cX2_addBeggar 21 = .ok (.getfield 19, 3) := by decide +kernel
theorem dX2_addBeggar_24 : decode cX2_addBeggar 24 = .ok (.iload_n 3, 1) := by decide +kernel
theorem dX2_addBeggar_25 : decode cX2_addBeggar 25 = .ok (.aaload, 1) := by decide +kernel
theorem dX2_addBeggar_26 : decode cX2_addBeggar 26 = .ok (.iload_n 1, 1) := by decide +kernel
theorem dX2_addBeggar_27 : decode cX2_addBeggar 27 = .ok (.iload_n 2, 1) := by decide +kernel
theorem dX2_addBeggar_28 : decode cX2_addBeggar 28 = .ok (.invokevirtual 51, 3) := by decide +kernel
theorem dX2_addBeggar_31 : decode cX2_addBeggar 31 = .ok (.aload_n 0, 1) := by decide +kernel
theorem dX2_addBeggar_32 : decode cX2_addBeggar 32 = .ok (.dup, 1) := by decide +kernel
theorem dX2_addBeggar_33 : decode cX2_addBeggar 33 = .ok (.getfield 41, 3) := by decide +kernel
theorem dX2_addBeggar_36 : decode cX2_addBeggar 36 = .ok (.iconst 1, 1) := by decide +kernel
theorem dX2_addBeggar_37 : decode cX2_addBeggar 37 = .ok (.iadd, 1) := by decide +kernel
theorem dX2_addBeggar_38 : decode cX2_addBeggar 38 = .ok (.putfield 41, 3) := by decide +kernel
theorem dX2_addBeggar_41 : decode cX2_addBeggar 41 = .ok (.iload_n 3, 1) := by decide +kernel
theorem dX2_addBeggar_42 : decode cX2_addBeggar 42 = .ok (.ireturn, 1) := by decide +kernel
theorem dX2_countOpen_0 : decode cX2_countOpen 0 = .ok (.iconst 0, 1) := by decide +kernel
theorem dX2_countOpen_1 : decode cX2_countOpen 1 = .ok (.istore_n 1, 1) := by decide +kernel
theorem dX2_countOpen_2 : decode cX2_countOpen 2 = .ok (.aload_n 0, 1) := by decide +kernel
theorem dX2_countOpen_3 : decode cX2_countOpen 3 = .ok (.getfield 11, 3) := by decide +kernel
theorem dX2_countOpen_6 : decode cX2_countOpen 6 = .ok (.astore_n 2, 1) := by decide +kernel
theorem dX2_countOpen_7 : decode cX2_countOpen 7 = .ok (.aload_n 2, 1) := by decide +kernel
theorem dX2_countOpen_8 : decode cX2_countOpen 8 = .ok (.arraylength, 1) := by decide +kernel
theorem dX2_countOpen_9 : decode cX2_countOpen 9 = .ok (.istore_n 3, 1) := by decide +kernel
theorem dX2_countOpen_10 : decode cX2_countOpen 10 = .ok (.iconst 0, 1) := by decide +kernel
theorem dX2_countOpen_11 : decode cX2_countOpen 11 = .ok (.istore 4, 2) := by decide +kernel
theorem dX2_countOpen_13 : decode cX2_countOpen 13 = .ok (.iload 4, 2) := by decide +kernel
theorem dX2_countOpen_15 : decode cX2_countOpen 15 = .ok (.iload_n 3, 1) := by decide +kernel
theorem dX2_countOpen_16 : decode cX2_countOpen 16 = .ok (.if_icmp .ge 26, 3) := by decide +kernel
theorem dX2_countOpen_19 : decode cX2_countOpen 19 = .ok (.aload_n 2, 1) := by decide +kernel
theorem dX2_countOpen_20 : decode cX2_countOpen 20 = .ok (.iload 4, 2) := by decide +kernel
theorem dX2_countOpen_22 : decode cX2_countOpen 22 = .ok (.aaload, 1) := by decide +kernel
theorem dX2_countOpen_23 : decode cX2_countOpen 23 = .ok (.astore 5, 2) := by decide +kernel
theorem dX2_countOpen_25 : decode cX2_countOpen 25 = .ok (.aload 5, 2) := by decide +kernel
theorem dX2_countOpen_27 : decode cX2_countOpen 27 = .ok (.invokevirtual 54, 3) := by decide +kernel
theorem dX2_countOpen_30 : decode cX2_countOpen 30 = .ok (.ifCond .eq 6, 3) := by decide +kernel
theorem dX2_countOpen_33 : decode cX2_countOpen 33 = .ok (.iinc 1 1, 3) := by decide +kernel
theorem dX2_countOpen_36 : decode cX2_countOpen 36 = .ok (.iinc 4 1, 3) := by decide +kernel
theorem dX2_countOpen_39 : decode cX2_countOpen 39 = .ok (.goto (-26), 3) := by decide +kernel
theorem dX2_countOpen_42 : decode cX2_countOpen 42 = .ok (.iload_n 1, 1) := by decide +kernel
theorem dX2_countOpen_43 : decode cX2_countOpen 43 = .ok (.ireturn, 1) := by decide +kernel
theorem dX2_countHidden_0 : decode cX2_countHidden 0 = .ok (.aload_n 0, 1) := by decide +kernel
theorem dX2_countHidden_1 : decode cX2_countHidden 1 = .ok (.getfield 38, 3) := by decide +kernel
theorem dX2_countHidden_4 : decode cX2_countHidden 4 = .ok (.aload_n 0, 1) := by decide +kernel
theorem dX2_countHidden_5 : decode cX2_countHidden 5 = .ok (.invokevirtual 58, 3) := by decide +kernel
theorem dX2_countHidden_8 : decode cX2_countHidden 8 = .ok (.isub, 1) := by decide +kernel
theorem dX2_countHidden_9 : decode cX2_countHidden 9 = .ok (.ireturn, 1) := by decide +kernel
theorem dX2_countComing_0 : decode cX2_countComing 0 = .ok (.iconst 0, 1) := by decide +kernel
theorem dX2_countComing_1 : decode cX2_countComing 1 = .ok (.istore_n 1, 1) := by decide +kernel
theorem dX2_countComing_2 : decode cX2_countComing 2 = .ok (.aload_n 0, 1) := by decide +kernel
theorem dX2_countComing_3 : decode cX2_countComing 3 = .ok (.getfield 19, 3) := by decide +kernel
theorem dX2_countComing_6 : decode cX2_countComing 6 = .ok (.astore_n 2, 1) := by decide +kernel
theorem dX2_countComing_7 : decode cX2_countComing 7 = .ok (.aload_n 2, 1) := by decide +kernel
theorem dX2_countComing_8 : decode cX2_countComing 8 = .ok (.arraylength, 1) := by decide +kernel
theorem dX2_countComing_9 : decode cX2_countComing 9 = .ok (.istore_n 3, 1) := by decide +kernel
theorem dX2_countComing_10 : decode cX2_countComing 10 = .ok (.iconst 0, 1) := by decide +kernel
theorem dX2_countComing_11 : decode cX2_countComing 11 = .ok (.istore 4, 2) := by decide +kernel
theorem dX2_countComing_13 : decode cX2_countComing 13 = .ok (.iload 4, 2) := by decide +kernel
theorem dX2_countComing_15 : decode cX2_countComing 15 = .ok (.iload_n 3, 1) := by decide +kernel
theorem dX2_countComing_16 : decode cX2_countComing 16 = .ok (.if_icmp .ge 26, 3) := by decide +kernel
theorem dX2_countComing_19 : decode cX2_countComing 19 = .ok (.aload_n 2, 1) := by decide +kernel
theorem dX2_countComing_20 : decode cX2_countComing 20 = .ok (.iload 4, 2) := by decide +kernel
theorem dX2_countComing_22 : decode cX2_countComing 22 = .ok (.aaload, 1) := by decide +kernel
theorem dX2_countComing_23 : decode cX2_countComing 23 = .ok (.astore 5, 2) := by decide +kernel
theorem dX2_countComing_25 : decode cX2_countComing 25 = .ok (.aload 5, 2) := by decide +kernel
theorem dX2_countComing_27 : decode cX2_countComing 27 = .ok (.invokevirtual 62, 3) := by decide +kernel
theorem dX2_countComing_30 : decode cX2_countComing 30 = .ok (.ifCond .eq 6, 3) := by decide +kernel
theorem dX2_countComing_33 : decode cX2_countComing 33 = .ok (.iinc 1 1, 3) := by decide +kernel
theorem dX2_countComing_36 : decode cX2_countComing 36 = .ok (.iinc 4 1, 3) := by decide +kernel
theorem dX2_countComing_39 : decode cX2_countComing 39 = .ok (.goto (-26), 3) := by decide +kernel
theorem dX2_countComing_42 : decode cX2_countComing 42 = .ok (.iload_n 1, 1) := by decide +kernel
theorem dX2_countComing_43 : decode cX2_countComing 43 = .ok (.ireturn, 1) := by decide +kernel
theorem dX2_countPosts_0 : decode cX2_countPosts 0 = .ok (.aload_n 0, 1) := by decide +kernel
theorem dX2_countPosts_1 : decode cX2_countPosts 1 = .ok (.getfield 41, 3) := by decide +kernel
theorem dX2_countPosts_4 : decode cX2_countPosts 4 = .ok (.aload_n 0, 1) := by decide +kernel
theorem dX2_countPosts_5 : decode cX2_countPosts 5 = .ok (.invokevirtual 65, 3) := by decide +kernel
theorem dX2_countPosts_8 : decode cX2_countPosts 8 = .ok (.isub, 1) := by decide +kernel
theorem dX2_countPosts_9 : decode cX2_countPosts 9 = .ok (.ireturn, 1) := by decide +kernel
theorem dX2_wearTogether_0 : decode cX2_wearTogether 0 = .ok (.iconst 0, 1) := by decide +kernel
theorem dX2_wearTogether_1 : decode cX2_wearTogether 1 = .ok (.istore_n 1, 1) := by decide +kernel
theorem dX2_wearTogether_2 : decode cX2_wearTogether 2 = .ok (.aload_n 0, 1) := by decide +kernel
theorem dX2_wearTogether_3 : decode cX2_wearTogether 3 = .ok (.getfield 11, 3) := by decide +kernel
theorem dX2_wearTogether_6 : decode cX2_wearTogether 6 = .ok (.astore_n 2, 1) := by decide +kernel
theorem dX2_wearTogether_7 : decode cX2_wearTogether 7 = .ok (.aload_n 2, 1) := by decide +kernel
theorem dX2_wearTogether_8 : decode cX2_wearTogether 8 = .ok (.arraylength, 1) := by decide +kernel
theorem dX2_wearTogether_9 : decode cX2_wearTogether 9 = .ok (.istore_n 3, 1) := by decide +kernel
theorem dX2_wearTogether_10 : decode cX2_wearTogether 10 = .ok (.iconst 0, 1) := by decide +kernel
theorem dX2_wearTogether_11 : decode cX2_wearTogether 11 = .ok (.istore 4, 2) := by decide +kernel
theorem dX2_wearTogether_13 : decode cX2_wearTogether 13 = .ok (.iload 4, 2) := by decide +kernel
theorem dX2_wearTogether_15 : decode cX2_wearTogether 15 = .ok (.iload_n 3, 1) := by decide +kernel
theorem dX2_wearTogether_16 : decode cX2_wearTogether 16 = .ok (.if_icmp .ge 31, 3) := by decide +kernel
theorem dX2_wearTogether_19 : decode cX2_wearTogether 19 = .ok (.aload_n 2, 1) := by decide +kernel
theorem dX2_wearTogether_20 : decode cX2_wearTogether 20 = .ok (.iload 4, 2) := by decide +kernel
theorem dX2_wearTogether_22 : decode cX2_wearTogether 22 = .ok (.aaload, 1) := by decide +kernel
theorem dX2_wearTogether_23 : decode cX2_wearTogether 23 = .ok (.astore 5, 2) := by decide +kernel
theorem dX2_wearTogether_25 : decode cX2_wearTogether 25 = .ok (.aload 5, 2) := by decide +kernel
theorem dX2_wearTogether_27 : decode cX2_wearTogether 27 = .ok (.getfield 68, 3) := by decide +kernel
theorem dX2_wearTogether_30 : decode cX2_wearTogether 30 = .ok (.ifCond .eq 11, 3) := by decide +kernel
theorem dX2_wearTogether_33 : decode cX2_wearTogether 33 = .ok (.iload_n 1, 1) := by decide +kernel
theorem dX2_wearTogether_34 : decode cX2_wearTogether 34 = .ok (.aload 5, 2) := by decide +kernel
theorem dX2_wearTogether_36 : decode cX2_wearTogether 36 = .ok (.getfield 72, 3) := by decide +kernel
theorem dX2_wearTogether_39 : decode cX2_wearTogether 39 = .ok (.iadd, 1) := by decide +kernel
theorem dX2_wearTogether_40 : decode cX2_wearTogether 40 = .ok (.istore_n 1, 1) := by decide +kernel
theorem dX2_wearTogether_41 : decode cX2_wearTogether 41 = .ok (.iinc 4 1, 3) := by decide +kernel
theorem dX2_wearTogether_44 : decode cX2_wearTogether 44 = .ok (.goto (-31), 3) := by decide +kernel
theorem dX2_wearTogether_47 : decode cX2_wearTogether 47 = .ok (.iload_n 1, 1) := by decide +kernel
theorem dX2_wearTogether_48 : decode cX2_wearTogether 48 = .ok (.ireturn, 1) := by decide +kernel
theorem dX2_hungerTogether_0 : decode cX2_hungerTogether 0 = .ok (.iconst 0, 1) := by decide +kernel
theorem dX2_hungerTogether_1 : decode cX2_hungerTogether 1 = .ok (.istore_n 1, 1) := by decide +kernel
theorem dX2_hungerTogether_2 : decode cX2_hungerTogether 2 = .ok (.aload_n 0, 1) := by decide +kernel
theorem dX2_hungerTogether_3 : decode cX2_hungerTogether 3 = .ok (.getfield 19, 3) := by decide +kernel
theorem dX2_hungerTogether_6 : decode cX2_hungerTogether 6 = .ok (.astore_n 2, 1) := by decide +kernel
theorem dX2_hungerTogether_7 : decode cX2_hungerTogether 7 = .ok (.aload_n 2, 1) := by decide +kernel
theorem dX2_hungerTogether_8 : decode cX2_hungerTogether 8 = .ok (.arraylength, 1) := by decide +kernel
theorem dX2_hungerTogether_9 : decode cX2_hungerTogether 9 = .ok (.istore_n 3, 1) := by decide +kernel
theorem dX2_hungerTogether_10 : decode cX2_hungerTogether 10 = .ok (.iconst 0, 1) := by decide +kernel
theorem dX2_hungerTogether_11 : decode cX2_hungerTogether 11 = .ok (.istore 4, 2) := by decide +kernel
theorem dX2_hungerTogether_13 : decode cX2_hungerTogether 13 = .ok (.iload 4, 2) := by decide +kernel
theorem dX2_hungerTogether_15 : decode cX2_hungerTogether 15 = .ok (.iload_n 3, 1) := by decide +kernel
theorem dX2_hungerTogether_16 : decode cX2_hungerTogether 16 = .ok (.if_icmp .ge 31, 3) := by decide +kernel
theorem dX2_hungerTogether_19 : decode cX2_hungerTogether 19 = .ok (.aload_n 2, 1) := by decide +kernel
theorem dX2_hungerTogether_20 : decode cX2_hungerTogether 20 = .ok (.iload 4, 2) := by decide +kernel
theorem dX2_hungerTogether_22 : decode cX2_hungerTogether 22 = .ok (.aaload, 1) := by decide +kernel
theorem dX2_hungerTogether_23 : decode cX2_hungerTogether 23 = .ok (.astore 5, 2) := by decide +kernel
theorem dX2_hungerTogether_25 : decode cX2_hungerTogether 25 = .ok (.aload 5, 2) := by decide +kernel
theorem dX2_hungerTogether_27 : decode cX2_hungerTogether 27 = .ok (.getfield 75, 3) := by decide +kernel
theorem dX2_hungerTogether_30 : decode cX2_hungerTogether 30 = .ok (.ifCond .eq 11, 3) := by decide +kernel
theorem dX2_hungerTogether_33 : decode cX2_hungerTogether 33 = .ok (.iload_n 1, 1) := by decide +kernel
theorem dX2_hungerTogether_34 : decode cX2_hungerTogether 34 = .ok (.aload 5, 2) := by decide +kernel
theorem dX2_hungerTogether_36 : decode cX2_hungerTogether 36 = .ok (.getfield 76, 3) := by decide +kernel
theorem dX2_hungerTogether_39 : decode cX2_hungerTogether 39 = .ok (.iadd, 1) := by decide +kernel
theorem dX2_hungerTogether_40 : decode cX2_hungerTogether 40 = .ok (.istore_n 1, 1) := by decide +kernel
theorem dX2_hungerTogether_41 : decode cX2_hungerTogether 41 = .ok (.iinc 4 1, 3) := by decide +kernel
theorem dX2_hungerTogether_44 : decode cX2_hungerTogether 44 = .ok (.goto (-31), 3) := by decide +kernel
theorem dX2_hungerTogether_47 : decode cX2_hungerTogether 47 = .ok (.iload_n 1, 1) := by decide +kernel
theorem dX2_hungerTogether_48 : decode cX2_hungerTogether 48 = .ok (.ireturn, 1) := by decide +kernel
theorem dX2_comingAt_0 : decode cX2_comingAt 0 = .ok (.iload_n 1, 1) := by decide +kernel
theorem dX2_comingAt_1 : decode cX2_comingAt 1 = .ok (.istore_n 2, 1) := by decide +kernel
theorem dX2_comingAt_2 : decode cX2_comingAt 2 = .ok (.aload_n 0, 1) := by decide +kernel
theorem dX2_comingAt_3 : decode cX2_comingAt 3 = .ok (.getfield 19, 3) := by decide +kernel
theorem dX2_comingAt_6 : decode cX2_comingAt 6 = .ok (.astore_n 3, 1) := by decide +kernel
theorem dX2_comingAt_7 : decode cX2_comingAt 7 = .ok (.aload_n 3, 1) := by decide +kernel
theorem dX2_comingAt_8 : decode cX2_comingAt 8 = .ok (.arraylength, 1) := by decide +kernel
theorem dX2_comingAt_9 : decode cX2_comingAt 9 = .ok (.istore 4, 2) := by decide +kernel
theorem dX2_comingAt_11 : decode cX2_comingAt 11 = .ok (.iconst 0, 1) := by decide +kernel
theorem dX2_comingAt_12 : decode cX2_comingAt 12 = .ok (.istore 5, 2) := by decide +kernel
theorem dX2_comingAt_14 : decode cX2_comingAt 14 = .ok (.iload 5, 2) := by decide +kernel
theorem dX2_comingAt_16 : decode cX2_comingAt 16 = .ok (.iload 4, 2) := by decide +kernel
theorem dX2_comingAt_18 : decode cX2_comingAt 18 = .ok (.if_icmp .ge 33, 3) := by decide +kernel
theorem dX2_comingAt_21 : decode cX2_comingAt 21 = .ok (.aload_n 3, 1) := by decide +kernel
theorem dX2_comingAt_22 : decode cX2_comingAt 22 = .ok (.iload 5, 2) := by decide +kernel
theorem dX2_comingAt_24 : decode cX2_comingAt 24 = .ok (.aaload, 1) := by decide +kernel
theorem dX2_comingAt_25 : decode cX2_comingAt 25 = .ok (.astore 6, 2) := by decide +kernel
theorem dX2_comingAt_27 : decode cX2_comingAt 27 = .ok (.aload 6, 2) := by decide +kernel
theorem dX2_comingAt_29 : decode cX2_comingAt 29 = .ok (.invokevirtual 62, 3) := by decide +kernel
theorem dX2_comingAt_32 : decode cX2_comingAt 32 = .ok (.ifCond .eq 13, 3) := by decide +kernel
theorem dX2_comingAt_35 : decode cX2_comingAt 35 = .ok (.iload_n 2, 1) := by decide +kernel
theorem dX2_comingAt_36 : decode cX2_comingAt 36 = .ok (.ifCond .ne 6, 3) := by decide +kernel
theorem dX2_comingAt_39 : decode cX2_comingAt 39 = .ok (.aload 6, 2) := by decide +kernel
theorem dX2_comingAt_41 : decode cX2_comingAt 41 = .ok (.areturn, 1) := by decide +kernel
theorem dX2_comingAt_42 : decode cX2_comingAt 42 = .ok (.iinc 2 (-1), 3) := by decide +kernel
theorem dX2_comingAt_45 : decode cX2_comingAt 45 = .ok (.iinc 5 1, 3) := by decide +kernel
theorem dX2_comingAt_48 : decode cX2_comingAt 48 = .ok (.goto (-34), 3) := by decide +kernel
theorem dX2_comingAt_51 : decode cX2_comingAt 51 = .ok (.aconst_null, 1) := by decide +kernel
theorem dX2_comingAt_52 : decode cX2_comingAt 52 = .ok (.areturn, 1) := by decide +kernel
theorem dX2_openAt_0 : decode cX2_openAt 0 = .ok (.iload_n 1, 1) := by decide +kernel
theorem dX2_openAt_1 : decode cX2_openAt 1 = .ok (.istore_n 2, 1) := by decide +kernel
theorem dX2_openAt_2 : decode cX2_openAt 2 = .ok (.aload_n 0, 1) := by decide +kernel
theorem dX2_openAt_3 : decode cX2_openAt 3 = .ok (.getfield 11, 3) := by decide +kernel
theorem dX2_openAt_6 : decode cX2_openAt 6 = .ok (.astore_n 3, 1) := by decide +kernel
theorem dX2_openAt_7 : decode cX2_openAt 7 = .ok (.aload_n 3, 1) := by decide +kernel
theorem dX2_openAt_8 : decode cX2_openAt 8 = .ok (.arraylength, 1) := by decide +kernel
theorem dX2_openAt_9 : decode cX2_openAt 9 = .ok (.istore 4, 2) := by decide +kernel
theorem dX2_openAt_11 : decode cX2_openAt 11 = .ok (.iconst 0, 1) := by decide +kernel
theorem dX2_openAt_12 : decode cX2_openAt 12 = .ok (.istore 5, 2) := by decide +kernel
theorem dX2_openAt_14 : decode cX2_openAt 14 = .ok (.iload 5, 2) := by decide +kernel
theorem dX2_openAt_16 : decode cX2_openAt 16 = .ok (.iload 4, 2) := by decide +kernel
theorem dX2_openAt_18 : decode cX2_openAt 18 = .ok (.if_icmp .ge 33, 3) := by decide +kernel
theorem dX2_openAt_21 : decode cX2_openAt 21 = .ok (.aload_n 3, 1) := by decide +kernel
theorem dX2_openAt_22 : decode cX2_openAt 22 = .ok (.iload 5, 2) := by decide +kernel
theorem dX2_openAt_24 : decode cX2_openAt 24 = .ok (.aaload, 1) := by decide +kernel
theorem dX2_openAt_25 : decode cX2_openAt 25 = .ok (.astore 6, 2) := by decide +kernel
theorem dX2_openAt_27 : decode cX2_openAt 27 = .ok (.aload 6, 2) := by decide +kernel
theorem dX2_openAt_29 : decode cX2_openAt 29 = .ok (.invokevirtual 54, 3) := by decide +kernel
theorem dX2_openAt_32 : decode cX2_openAt 32 = .ok (.ifCond .eq 13, 3) := by decide +kernel
theorem dX2_openAt_35 : decode cX2_openAt 35 = .ok (.iload_n 2, 1) := by decide +kernel
theorem dX2_openAt_36 : decode cX2_openAt 36 = .ok (.ifCond .ne 6, 3) := by decide +kernel
theorem dX2_openAt_39 : decode cX2_openAt 39 = .ok (.aload 6, 2) := by decide +kernel
theorem dX2_openAt_41 : decode cX2_openAt 41 = .ok (.areturn, 1) := by decide +kernel
theorem dX2_openAt_42 : decode cX2_openAt 42 = .ok (.iinc 2 (-1), 3) := by decide +kernel
theorem dX2_openAt_45 : decode cX2_openAt 45 = .ok (.iinc 5 1, 3) := by decide +kernel
theorem dX2_openAt_48 : decode cX2_openAt 48 = .ok (.goto (-34), 3) := by decide +kernel
theorem dX2_openAt_51 : decode cX2_openAt 51 = .ok (.aconst_null, 1) := by decide +kernel
theorem dX2_openAt_52 : decode cX2_openAt 52 = .ok (.areturn, 1) := by decide +kernel
theorem dX2_goBy_0 : decode cX2_goBy 0 = .ok (.aload_n 0, 1) := by decide +kernel
theorem dX2_goBy_1 : decode cX2_goBy 1 = .ok (.getfield 11, 3) := by decide +kernel
theorem dX2_goBy_4 : decode cX2_goBy 4 = .ok (.astore_n 1, 1) := by decide +kernel
theorem dX2_goBy_5 : decode cX2_goBy 5 = .ok (.aload_n 1, 1) := by decide +kernel
theorem dX2_goBy_6 : decode cX2_goBy 6 = .ok (.arraylength, 1) := by decide +kernel
theorem dX2_goBy_7 : decode cX2_goBy 7 = .ok (.istore_n 2, 1) := by decide +kernel
theorem dX2_goBy_8 : decode cX2_goBy 8 = .ok (.iconst 0, 1) := by decide +kernel
theorem dX2_goBy_9 : decode cX2_goBy 9 = .ok (.istore_n 3, 1) := by decide +kernel
theorem dX2_goBy_10 : decode cX2_goBy 10 = .ok (.iload_n 3, 1) := by decide +kernel
theorem dX2_goBy_11 : decode cX2_goBy 11 = .ok (.iload_n 2, 1) := by decide +kernel
theorem dX2_goBy_12 : decode cX2_goBy 12 = .ok (.if_icmp .ge 19, 3) := by decide +kernel
theorem dX2_goBy_15 : decode cX2_goBy 15 = .ok (.aload_n 1, 1) := by decide +kernel
theorem dX2_goBy_16 : decode cX2_goBy 16 = .ok (.iload_n 3, 1) := by decide +kernel
theorem dX2_goBy_17 : decode cX2_goBy 17 = .ok (.aaload, 1) := by decide +kernel
theorem dX2_goBy_18 : decode cX2_goBy 18 = .ok (.astore 4, 2) := by decide +kernel
theorem dX2_goBy_20 : decode cX2_goBy 20 = .ok (.aload 4, 2) := by decide +kernel
theorem dX2_goBy_22 : decode cX2_goBy 22 = .ok (.invokevirtual 79, 3) := by decide +kernel
theorem dX2_goBy_25 : decode cX2_goBy 25 = .ok (.iinc 3 1, 3) := by decide +kernel
theorem dX2_goBy_28 : decode cX2_goBy 28 = .ok (.goto (-18), 3) := by decide +kernel
theorem dX2_goBy_31 : decode cX2_goBy 31 = .ok (.aload_n 0, 1) := by decide +kernel
theorem dX2_goBy_32 : decode cX2_goBy 32 = .ok (.getfield 19, 3) := by decide +kernel
theorem dX2_goBy_35 : decode cX2_goBy 35 = .ok (.astore_n 1, 1) := by decide +kernel
theorem dX2_goBy_36 : decode cX2_goBy 36 = .ok (.aload_n 1, 1) := by decide +kernel
theorem dX2_goBy_37 : decode cX2_goBy 37 = .ok (.arraylength, 1) := by decide +kernel
theorem dX2_goBy_38 : decode cX2_goBy 38 = .ok (.istore_n 2, 1) := by decide +kernel
theorem dX2_goBy_39 : decode cX2_goBy 39 = .ok (.iconst 0, 1) := by decide +kernel
theorem dX2_goBy_40 : decode cX2_goBy 40 = .ok (.istore_n 3, 1) := by decide +kernel
theorem dX2_goBy_41 : decode cX2_goBy 41 = .ok (.iload_n 3, 1) := by decide +kernel
theorem dX2_goBy_42 : decode cX2_goBy 42 = .ok (.iload_n 2, 1) := by decide +kernel
theorem dX2_goBy_43 : decode cX2_goBy 43 = .ok (.if_icmp .ge 58, 3) := by decide +kernel
theorem dX2_goBy_46 : decode cX2_goBy 46 = .ok (.aload_n 1, 1) := by decide +kernel
theorem dX2_goBy_47 : decode cX2_goBy 47 = .ok (.iload_n 3, 1) := by decide +kernel
theorem dX2_goBy_48 : decode cX2_goBy 48 = .ok (.aaload, 1) := by decide +kernel
theorem dX2_goBy_49 : decode cX2_goBy 49 = .ok (.astore 4, 2) := by decide +kernel
theorem dX2_goBy_51 : decode cX2_goBy 51 = .ok (.aload 4, 2) := by decide +kernel
theorem dX2_goBy_53 : decode cX2_goBy 53 = .ok (.iconst (-1), 1) := by decide +kernel
theorem dX2_goBy_54 : decode cX2_goBy 54 = .ok (.putfield 82, 3) := by decide +kernel
theorem dX2_goBy_57 : decode cX2_goBy 57 = .ok (.aload 4, 2) := by decide +kernel
theorem dX2_goBy_59 : decode cX2_goBy 59 = .ok (.iconst 0, 1) := by decide +kernel
theorem dX2_goBy_60 : decode cX2_goBy 60 = .ok (.putfield 85, 3) := by decide +kernel
theorem dX2_goBy_63 : decode cX2_goBy 63 = .ok (.aload 4, 2) := by decide +kernel
theorem dX2_goBy_65 : decode cX2_goBy 65 = .ok (.invokevirtual 62, 3) := by decide +kernel
theorem dX2_goBy_68 : decode cX2_goBy 68 = .ok (.ifCond .eq 12, 3) := by decide +kernel
theorem dX2_goBy_71 : decode cX2_goBy 71 = .ok (.aload_n 0, 1) := by decide +kernel
theorem dX2_goBy_72 : decode cX2_goBy 72 = .ok (.aload 4, 2) := by decide +kernel
theorem dX2_goBy_74 : decode cX2_goBy 74 = .ok (.invokevirtual 88, 3) := by decide +kernel
theorem dX2_goBy_77 : decode cX2_goBy 77 = .ok (.goto 4, 3) := by decide +kernel
theorem dX2_goBy_80 : decode cX2_goBy 80 = .ok (.aconst_null, 1) := by decide +kernel
theorem dX2_goBy_81 : decode cX2_goBy 81 = .ok (.astore 5, 2) := by decide +kernel
theorem dX2_goBy_83 : decode cX2_goBy 83 = .ok (.aload 5, 2) := by decide +kernel
theorem dX2_goBy_85 : decode cX2_goBy 85 = .ok (.ifnull 10, 3) := by decide +kernel
theorem dX2_goBy_88 : decode cX2_goBy 88 = .ok (.aload 5, 2) := by decide +kernel
theorem dX2_goBy_90 : decode cX2_goBy 90 = .ok (.aload 4, 2) := by decide +kernel
theorem dX2_goBy_92 : decode cX2_goBy 92 = .ok (.invokevirtual 92, 3) := by decide +kernel
theorem dX2_goBy_95 : decode cX2_goBy 95 = .ok (.iinc 3 1, 3) := by decide +kernel
theorem dX2_goBy_98 : decode cX2_goBy 98 = .ok (.goto (-57), 3) := by decide +kernel
theorem dX2_goBy_101 : decode cX2_goBy 101 = .ok (.return_, 1) := by decide +kernel
theorem dX2_chosenBy_0 : decode cX2_chosenBy 0 = .ok (.aload_n 1, 1) := by decide +kernel
theorem dX2_chosenBy_1 : decode cX2_chosenBy 1 = .ok (.getfield 95, 3) := by decide +kernel
theorem dX2_chosenBy_4 : decode cX2_chosenBy 4 = .ok (.tableswitch 89 0 4 #[36, 41, 46, 51, 65], 36) := by decide +kernel
theorem dX2_chosenBy_40 : decode cX2_chosenBy 40 = .ok (.aload_n 0, 1) := by decide +kernel
theorem dX2_chosenBy_41 : decode cX2_chosenBy 41 = .ok (.invokevirtual 98, 3) := by decide +kernel
theorem dX2_chosenBy_44 : decode cX2_chosenBy 44 = .ok (.areturn, 1) := by decide +kernel
theorem dX2_chosenBy_45 : decode cX2_chosenBy 45 = .ok (.aload_n 0, 1) := by decide +kernel
theorem dX2_chosenBy_46 : decode cX2_chosenBy 46 = .ok (.invokevirtual 102, 3) := by decide +kernel
theorem dX2_chosenBy_49 : decode cX2_chosenBy 49 = .ok (.areturn, 1) := by decide +kernel
theorem dX2_chosenBy_50 : decode cX2_chosenBy 50 = .ok (.aload_n 0, 1) := by decide +kernel
theorem dX2_chosenBy_51 : decode cX2_chosenBy 51 = .ok (.invokevirtual 105, 3) := by decide +kernel
theorem dX2_chosenBy_54 : decode cX2_chosenBy 54 = .ok (.areturn, 1) := by decide +kernel
theorem dX2_chosenBy_55 : decode cX2_chosenBy 55 = .ok (.aload_n 0, 1) := by decide +kernel
theorem dX2_chosenBy_56 : decode cX2_chosenBy 56 = .ok (.aload_n 0, 1) := by decide +kernel
theorem dX2_chosenBy_57 : decode cX2_chosenBy 57 = .ok (.aload_n 1, 1) := by decide +kernel
theorem dX2_chosenBy_58 : decode cX2_chosenBy 58 = .ok (.aload_n 0, 1) := by decide +kernel
theorem dX2_chosenBy_59 : decode cX2_chosenBy 59 = .ok (.invokevirtual 58, 3) := by decide +kernel
theorem dX2_chosenBy_62 : decode cX2_chosenBy 62 = .ok (.invokevirtual 108, 3) := by decide +kernel
theorem dX2_chosenBy_65 : decode cX2_chosenBy 65 = .ok (.invokevirtual 112, 3) := by decide +kernel
theorem dX2_chosenBy_68 : decode cX2_chosenBy 68 = .ok (.areturn, 1) := by decide +kernel
theorem dX2_chosenBy_69 : decode cX2_chosenBy 69 = .ok (.aload_n 0, 1) := by decide +kernel
theorem dX2_chosenBy_70 : decode cX2_chosenBy 70 = .ok (.aload_n 1, 1) := by decide +kernel
theorem dX2_chosenBy_71 : decode cX2_chosenBy 71 = .ok (.invokevirtual 116, 3) := by decide +kernel
theorem dX2_chosenBy_74 : decode cX2_chosenBy 74 = .ok (.ifCond .eq 14, 3) := by decide +kernel
theorem dX2_chosenBy_77 : decode cX2_chosenBy 77 = .ok (.aload_n 0, 1) := by decide +kernel
theorem dX2_chosenBy_78 : decode cX2_chosenBy 78 = .ok (.aload_n 1, 1) := by decide +kernel
theorem dX2_chosenBy_79 : decode cX2_chosenBy 79 = .ok (.getfield 120, 3) := by decide +kernel
theorem dX2_chosenBy_82 : decode cX2_chosenBy 82 = .ok (.invokevirtual 123, 3) := by decide +kernel
theorem dX2_chosenBy_85 : decode cX2_chosenBy 85 = .ok (.goto 7, 3) := by decide +kernel
theorem dX2_chosenBy_88 : decode cX2_chosenBy 88 = .ok (.aload_n 0, 1) := by decide +kernel
theorem dX2_chosenBy_89 : decode cX2_chosenBy 89 = .ok (.invokevirtual 98, 3) := by decide +kernel
theorem dX2_chosenBy_92 : decode cX2_chosenBy 92 = .ok (.areturn, 1) := by decide +kernel
theorem dX2_chosenBy_93 : decode cX2_chosenBy 93 = .ok (.aconst_null, 1) := by decide +kernel
theorem dX2_chosenBy_94 : decode cX2_chosenBy 94 = .ok (.areturn, 1) := by decide +kernel
theorem dX2_greatestFace_0 : decode cX2_greatestFace 0 = .ok (.aconst_null, 1) := by decide +kernel
theorem dX2_greatestFace_1 : decode cX2_greatestFace 1 = .ok (.astore_n 1, 1) := by decide +kernel
theorem dX2_greatestFace_2 : decode cX2_greatestFace 2 = .ok (.aload_n 0, 1) := by decide +kernel
theorem dX2_greatestFace_3 : decode cX2_greatestFace 3 = .ok (.getfield 11, 3) := by decide +kernel
theorem dX2_greatestFace_6 : decode cX2_greatestFace 6 = .ok (.astore_n 2, 1) := by decide +kernel
theorem dX2_greatestFace_7 : decode cX2_greatestFace 7 = .ok (.aload_n 2, 1) := by decide +kernel
theorem dX2_greatestFace_8 : decode cX2_greatestFace 8 = .ok (.arraylength, 1) := by decide +kernel
theorem dX2_greatestFace_9 : decode cX2_greatestFace 9 = .ok (.istore_n 3, 1) := by decide +kernel
theorem dX2_greatestFace_10 : decode cX2_greatestFace 10 = .ok (.iconst 0, 1) := by decide +kernel
theorem dX2_greatestFace_11 : decode cX2_greatestFace 11 = .ok (.istore 4, 2) := by decide +kernel
theorem dX2_greatestFace_13 : decode cX2_greatestFace 13 = .ok (.iload 4, 2) := by decide +kernel
theorem dX2_greatestFace_15 : decode cX2_greatestFace 15 = .ok (.iload_n 3, 1) := by decide +kernel
theorem dX2_greatestFace_16 : decode cX2_greatestFace 16 = .ok (.if_icmp .ge 42, 3) := by decide +kernel
theorem dX2_greatestFace_19 : decode cX2_greatestFace 19 = .ok (.aload_n 2, 1) := by decide +kernel
theorem dX2_greatestFace_20 : decode cX2_greatestFace 20 = .ok (.iload 4, 2) := by decide +kernel
theorem dX2_greatestFace_22 : decode cX2_greatestFace 22 = .ok (.aaload, 1) := by decide +kernel
theorem dX2_greatestFace_23 : decode cX2_greatestFace 23 = .ok (.astore 5, 2) := by decide +kernel
theorem dX2_greatestFace_25 : decode cX2_greatestFace 25 = .ok (.aload 5, 2) := by decide +kernel
theorem dX2_greatestFace_27 : decode cX2_greatestFace 27 = .ok (.invokevirtual 54, 3) := by decide +kernel
theorem dX2_greatestFace_30 : decode cX2_greatestFace 30 = .ok (.ifCond .eq 22, 3) := by decide +kernel
theorem dX2_greatestFace_33 : decode cX2_greatestFace 33 = .ok (.aload_n 1, 1) := by decide +kernel
theorem dX2_greatestFace_34 : decode cX2_greatestFace 34 = .ok (.ifnull 15, 3) := by decide +kernel
theorem dX2_greatestFace_37 : decode cX2_greatestFace 37 = .ok (.aload 5, 2) := by decide +kernel
theorem dX2_greatestFace_39 : decode cX2_greatestFace 39 = .ok (.getfield 126, 3) := by decide +kernel
theorem dX2_greatestFace_42 : decode cX2_greatestFace 42 = .ok (.aload_n 1, 1) := by decide +kernel
theorem dX2_greatestFace_43 : decode cX2_greatestFace 43 = .ok (.getfield 126, 3) := by decide +kernel
theorem dX2_greatestFace_46 : decode cX2_greatestFace 46 = .ok (.if_icmp .le 6, 3) := by decide +kernel
theorem dX2_greatestFace_49 : decode cX2_greatestFace 49 = .ok (.aload 5, 2) := by decide +kernel
theorem dX2_greatestFace_51 : decode cX2_greatestFace 51 = .ok (.astore_n 1, 1) := by decide +kernel
theorem dX2_greatestFace_52 : decode cX2_greatestFace 52 = .ok (.iinc 4 1, 3) := by decide +kernel
theorem dX2_greatestFace_55 : decode cX2_greatestFace 55 = .ok (.goto (-42), 3) := by decide +kernel
theorem dX2_greatestFace_58 : decode cX2_greatestFace 58 = .ok (.aload_n 1, 1) := by decide +kernel
theorem dX2_greatestFace_59 : decode cX2_greatestFace 59 = .ok (.areturn, 1) := by decide +kernel
theorem dX2_leastFace_0 : decode cX2_leastFace 0 = .ok (.aconst_null, 1) := by decide +kernel
theorem dX2_leastFace_1 : decode cX2_leastFace 1 = .ok (.astore_n 1, 1) := by decide +kernel
theorem dX2_leastFace_2 : decode cX2_leastFace 2 = .ok (.aload_n 0, 1) := by decide +kernel
theorem dX2_leastFace_3 : decode cX2_leastFace 3 = .ok (.getfield 11, 3) := by decide +kernel
theorem dX2_leastFace_6 : decode cX2_leastFace 6 = .ok (.astore_n 2, 1) := by decide +kernel
theorem dX2_leastFace_7 : decode cX2_leastFace 7 = .ok (.aload_n 2, 1) := by decide +kernel
theorem dX2_leastFace_8 : decode cX2_leastFace 8 = .ok (.arraylength, 1) := by decide +kernel
theorem dX2_leastFace_9 : decode cX2_leastFace 9 = .ok (.istore_n 3, 1) := by decide +kernel
theorem dX2_leastFace_10 : decode cX2_leastFace 10 = .ok (.iconst 0, 1) := by decide +kernel
theorem dX2_leastFace_11 : decode cX2_leastFace 11 = .ok (.istore 4, 2) := by decide +kernel
theorem dX2_leastFace_13 : decode cX2_leastFace 13 = .ok (.iload 4, 2) := by decide +kernel
theorem dX2_leastFace_15 : decode cX2_leastFace 15 = .ok (.iload_n 3, 1) := by decide +kernel
theorem dX2_leastFace_16 : decode cX2_leastFace 16 = .ok (.if_icmp .ge 42, 3) := by decide +kernel
theorem dX2_leastFace_19 : decode cX2_leastFace 19 = .ok (.aload_n 2, 1) := by decide +kernel
theorem dX2_leastFace_20 : decode cX2_leastFace 20 = .ok (.iload 4, 2) := by decide +kernel
theorem dX2_leastFace_22 : decode cX2_leastFace 22 = .ok (.aaload, 1) := by decide +kernel
theorem dX2_leastFace_23 : decode cX2_leastFace 23 = .ok (.astore 5, 2) := by decide +kernel
theorem dX2_leastFace_25 : decode cX2_leastFace 25 = .ok (.aload 5, 2) := by decide +kernel
theorem dX2_leastFace_27 : decode cX2_leastFace 27 = .ok (.invokevirtual 54, 3) := by decide +kernel
theorem dX2_leastFace_30 : decode cX2_leastFace 30 = .ok (.ifCond .eq 22, 3) := by decide +kernel
theorem dX2_leastFace_33 : decode cX2_leastFace 33 = .ok (.aload_n 1, 1) := by decide +kernel
theorem dX2_leastFace_34 : decode cX2_leastFace 34 = .ok (.ifnull 15, 3) := by decide +kernel
theorem dX2_leastFace_37 : decode cX2_leastFace 37 = .ok (.aload 5, 2) := by decide +kernel
theorem dX2_leastFace_39 : decode cX2_leastFace 39 = .ok (.getfield 126, 3) := by decide +kernel
theorem dX2_leastFace_42 : decode cX2_leastFace 42 = .ok (.aload_n 1, 1) := by decide +kernel
theorem dX2_leastFace_43 : decode cX2_leastFace 43 = .ok (.getfield 126, 3) := by decide +kernel
theorem dX2_leastFace_46 : decode cX2_leastFace 46 = .ok (.if_icmp .ge 6, 3) := by decide +kernel
theorem dX2_leastFace_49 : decode cX2_leastFace 49 = .ok (.aload 5, 2) := by decide +kernel
theorem dX2_leastFace_51 : decode cX2_leastFace 51 = .ok (.astore_n 1, 1) := by decide +kernel
theorem dX2_leastFace_52 : decode cX2_leastFace 52 = .ok (.iinc 4 1, 3) := by decide +kernel
theorem dX2_leastFace_55 : decode cX2_leastFace 55 = .ok (.goto (-42), 3) := by decide +kernel
theorem dX2_leastFace_58 : decode cX2_leastFace 58 = .ok (.aload_n 1, 1) := by decide +kernel
theorem dX2_leastFace_59 : decode cX2_leastFace 59 = .ok (.areturn, 1) := by decide +kernel
theorem dX2_fewestPicked_0 : decode cX2_fewestPicked 0 = .ok (.aconst_null, 1) := by decide +kernel
theorem dX2_fewestPicked_1 : decode cX2_fewestPicked 1 = .ok (.astore_n 1, 1) := by decide +kernel
theorem dX2_fewestPicked_2 : decode cX2_fewestPicked 2 = .ok (.aload_n 0, 1) := by decide +kernel
theorem dX2_fewestPicked_3 : decode cX2_fewestPicked 3 = .ok (.getfield 11, 3) := by decide +kernel
theorem dX2_fewestPicked_6 : decode cX2_fewestPicked 6 = .ok (.astore_n 2, 1) := by decide +kernel
theorem dX2_fewestPicked_7 : decode cX2_fewestPicked 7 = .ok (.aload_n 2, 1) := by decide +kernel
theorem dX2_fewestPicked_8 : decode cX2_fewestPicked 8 = .ok (.arraylength, 1) := by decide +kernel
theorem dX2_fewestPicked_9 : decode cX2_fewestPicked 9 = .ok (.istore_n 3, 1) := by decide +kernel
theorem dX2_fewestPicked_10 : decode cX2_fewestPicked 10 = .ok (.iconst 0, 1) := by decide +kernel
theorem dX2_fewestPicked_11 : decode cX2_fewestPicked 11 = .ok (.istore 4, 2) := by decide +kernel
theorem dX2_fewestPicked_13 : decode cX2_fewestPicked 13 = .ok (.iload 4, 2) := by decide +kernel
theorem dX2_fewestPicked_15 : decode cX2_fewestPicked 15 = .ok (.iload_n 3, 1) := by decide +kernel
theorem dX2_fewestPicked_16 : decode cX2_fewestPicked 16 = .ok (.if_icmp .ge 69, 3) := by decide +kernel
theorem dX2_fewestPicked_19 : decode cX2_fewestPicked 19 = .ok (.aload_n 2, 1) := by decide +kernel
theorem dX2_fewestPicked_20 : decode cX2_fewestPicked 20 = .ok (.iload 4, 2) := by decide +kernel
theorem dX2_fewestPicked_22 : decode cX2_fewestPicked 22 = .ok (.aaload, 1) := by decide +kernel
theorem dX2_fewestPicked_23 : decode cX2_fewestPicked 23 = .ok (.astore 5, 2) := by decide +kernel
theorem dX2_fewestPicked_25 : decode cX2_fewestPicked 25 = .ok (.aload 5, 2) := by decide +kernel
theorem dX2_fewestPicked_27 : decode cX2_fewestPicked 27 = .ok (.invokevirtual 54, 3) := by decide +kernel
theorem dX2_fewestPicked_30 : decode cX2_fewestPicked 30 = .ok (.ifCond .ne 6, 3) := by decide +kernel
theorem dX2_fewestPicked_33 : decode cX2_fewestPicked 33 = .ok (.goto 46, 3) := by decide +kernel
theorem dX2_fewestPicked_36 : decode cX2_fewestPicked 36 = .ok (.aload_n 1, 1) := by decide +kernel
theorem dX2_fewestPicked_37 : decode cX2_fewestPicked 37 = .ok (.ifnull 39, 3) := by decide +kernel
theorem dX2_fewestPicked_40 : decode cX2_fewestPicked 40 = .ok (.aload 5, 2) := by decide +kernel
theorem dX2_fewestPicked_42 : decode cX2_fewestPicked 42 = .ok (.getfield 129, 3) := by decide +kernel
theorem dX2_fewestPicked_45 : decode cX2_fewestPicked 45 = .ok (.aload_n 1, 1) := by decide +kernel
theorem dX2_fewestPicked_46 : decode cX2_fewestPicked 46 = .ok (.getfield 129, 3) := by decide +kernel
theorem dX2_fewestPicked_49 : decode cX2_fewestPicked 49 = .ok (.if_icmp .lt 27, 3) := by decide +kernel
theorem dX2_fewestPicked_52 : decode cX2_fewestPicked 52 = .ok (.aload 5, 2) := by decide +kernel
theorem dX2_fewestPicked_54 : decode cX2_fewestPicked 54 = .ok (.getfield 129, 3) := by decide +kernel
theorem dX2_fewestPicked_57 : decode cX2_fewestPicked 57 = .ok (.aload_n 1, 1) := by decide +kernel
theorem dX2_fewestPicked_58 : decode cX2_fewestPicked 58 = .ok (.getfield 129, 3) := by decide +kernel
theorem dX2_fewestPicked_61 : decode cX2_fewestPicked 61 = .ok (.if_icmp .ne 18, 3) := by decide +kernel
theorem dX2_fewestPicked_64 : decode cX2_fewestPicked 64 = .ok (.aload 5, 2) := by decide +kernel
theorem dX2_fewestPicked_66 : decode cX2_fewestPicked 66 = .ok (.getfield 126, 3) := by decide +kernel
theorem dX2_fewestPicked_69 : decode cX2_fewestPicked 69 = .ok (.aload_n 1, 1) := by decide +kernel
theorem dX2_fewestPicked_70 : decode cX2_fewestPicked 70 = .ok (.getfield 126, 3) := by decide +kernel
theorem dX2_fewestPicked_73 : decode cX2_fewestPicked 73 = .ok (.if_icmp .le 6, 3) := by decide +kernel
theorem dX2_fewestPicked_76 : decode cX2_fewestPicked 76 = .ok (.aload 5, 2) := by decide +kernel
theorem dX2_fewestPicked_78 : decode cX2_fewestPicked 78 = .ok (.astore_n 1, 1) := by decide +kernel
theorem dX2_fewestPicked_79 : decode cX2_fewestPicked 79 = .ok (.iinc 4 1, 3) := by decide +kernel
theorem dX2_fewestPicked_82 : decode cX2_fewestPicked 82 = .ok (.goto (-69), 3) := by decide +kernel
theorem dX2_fewestPicked_85 : decode cX2_fewestPicked 85 = .ok (.aload_n 1, 1) := by decide +kernel
theorem dX2_fewestPicked_86 : decode cX2_fewestPicked 86 = .ok (.areturn, 1) := by decide +kernel
theorem dX2_blindPlace_0 : decode cX2_blindPlace 0 = .ok (.iload_n 2, 1) := by decide +kernel
theorem dX2_blindPlace_1 : decode cX2_blindPlace 1 = .ok (.ifCond .le 17, 3) := by decide +kernel
theorem dX2_blindPlace_4 : decode cX2_blindPlace 4 = .ok (.aload_n 1, 1) := by decide +kernel
theorem dX2_blindPlace_5 : decode cX2_blindPlace 5 = .ok (.getfield 132, 3) := by decide +kernel
theorem dX2_blindPlace_8 : decode cX2_blindPlace 8 = .ok (.aload_n 0, 1) := by decide +kernel
theorem dX2_blindPlace_9 : decode cX2_blindPlace 9 = .ok (.getfield 44, 3) := by decide +kernel
theorem dX2_blindPlace_12 : decode cX2_blindPlace 12 = .ok (.iadd, 1) := by decide +kernel
theorem dX2_blindPlace_13 : decode cX2_blindPlace 13 = .ok (.iload_n 2, 1) := by decide +kernel
theorem dX2_blindPlace_14 : decode cX2_blindPlace 14 = .ok (.irem, 1) := by decide +kernel
theorem dX2_blindPlace_15 : decode cX2_blindPlace 15 = .ok (.goto 4, 3) := by decide +kernel
theorem dX2_blindPlace_18 : decode cX2_blindPlace 18 = .ok (.iconst (-1), 1) := by decide +kernel
theorem dX2_blindPlace_19 : decode cX2_blindPlace 19 = .ok (.ireturn, 1) := by decide +kernel
theorem dX2_canStay_0 : decode cX2_canStay 0 = .ok (.aload_n 0, 1) := by decide +kernel
theorem dX2_canStay_1 : decode cX2_canStay 1 = .ok (.aload_n 1, 1) := by decide +kernel
theorem dX2_canStay_2 : decode cX2_canStay 2 = .ok (.getfield 120, 3) := by decide +kernel
theorem dX2_canStay_5 : decode cX2_canStay 5 = .ok (.invokevirtual 123, 3) := by decide +kernel
theorem dX2_canStay_8 : decode cX2_canStay 8 = .ok (.astore_n 2, 1) := by decide +kernel
theorem dX2_canStay_9 : decode cX2_canStay 9 = .ok (.aload_n 2, 1) := by decide +kernel
theorem dX2_canStay_10 : decode cX2_canStay 10 = .ok (.ifnull 14, 3) := by decide +kernel
theorem dX2_canStay_13 : decode cX2_canStay 13 = .ok (.aload_n 2, 1) := by decide +kernel
theorem dX2_canStay_14 : decode cX2_canStay 14 = .ok (.invokevirtual 54, 3) := by decide +kernel
theorem dX2_canStay_17 : decode cX2_canStay 17 = .ok (.ifCond .eq 7, 3) := by decide +kernel
theorem dX2_canStay_20 : decode cX2_canStay 20 = .ok (.iconst 1, 1) := by decide +kernel
theorem dX2_canStay_21 : decode cX2_canStay 21 = .ok (.goto 4, 3) := by decide +kernel
theorem dX2_canStay_24 : decode cX2_canStay 24 = .ok (.iconst 0, 1) := by decide +kernel
theorem dX2_canStay_25 : decode cX2_canStay 25 = .ok (.ireturn, 1) := by decide +kernel
theorem dX2_keptBits_0 : decode cX2_keptBits 0 = .ok (.iconst 0, 1) := by decide +kernel
theorem dX2_keptBits_1 : decode cX2_keptBits 1 = .ok (.istore_n 1, 1) := by decide +kernel
theorem dX2_keptBits_2 : decode cX2_keptBits 2 = .ok (.aload_n 0, 1) := by decide +kernel
theorem dX2_keptBits_3 : decode cX2_keptBits 3 = .ok (.getfield 19, 3) := by decide +kernel
theorem dX2_keptBits_6 : decode cX2_keptBits 6 = .ok (.astore_n 2, 1) := by decide +kernel
theorem dX2_keptBits_7 : decode cX2_keptBits 7 = .ok (.aload_n 2, 1) := by decide +kernel
theorem dX2_keptBits_8 : decode cX2_keptBits 8 = .ok (.arraylength, 1) := by decide +kernel
theorem dX2_keptBits_9 : decode cX2_keptBits 9 = .ok (.istore_n 3, 1) := by decide +kernel
theorem dX2_keptBits_10 : decode cX2_keptBits 10 = .ok (.iconst 0, 1) := by decide +kernel
theorem dX2_keptBits_11 : decode cX2_keptBits 11 = .ok (.istore 4, 2) := by decide +kernel
theorem dX2_keptBits_13 : decode cX2_keptBits 13 = .ok (.iload 4, 2) := by decide +kernel
theorem dX2_keptBits_15 : decode cX2_keptBits 15 = .ok (.iload_n 3, 1) := by decide +kernel
theorem dX2_keptBits_16 : decode cX2_keptBits 16 = .ok (.if_icmp .ge 33, 3) := by decide +kernel
theorem dX2_keptBits_19 : decode cX2_keptBits 19 = .ok (.aload_n 2, 1) := by decide +kernel
theorem dX2_keptBits_20 : decode cX2_keptBits 20 = .ok (.iload 4, 2) := by decide +kernel
theorem dX2_keptBits_22 : decode cX2_keptBits 22 = .ok (.aaload, 1) := by decide +kernel
theorem dX2_keptBits_23 : decode cX2_keptBits 23 = .ok (.astore 5, 2) := by decide +kernel
theorem dX2_keptBits_25 : decode cX2_keptBits 25 = .ok (.aload 5, 2) := by decide +kernel
theorem dX2_keptBits_27 : decode cX2_keptBits 27 = .ok (.getfield 85, 3) := by decide +kernel
theorem dX2_keptBits_30 : decode cX2_keptBits 30 = .ok (.ifCond .eq 13, 3) := by decide +kernel
theorem dX2_keptBits_33 : decode cX2_keptBits 33 = .ok (.iload_n 1, 1) := by decide +kernel
theorem dX2_keptBits_34 : decode cX2_keptBits 34 = .ok (.iconst 1, 1) := by decide +kernel
theorem dX2_keptBits_35 : decode cX2_keptBits 35 = .ok (.aload 5, 2) := by decide +kernel
theorem dX2_keptBits_37 : decode cX2_keptBits 37 = .ok (.getfield 132, 3) := by decide +kernel
theorem dX2_keptBits_40 : decode cX2_keptBits 40 = .ok (.ishl, 1) := by decide +kernel
theorem dX2_keptBits_41 : decode cX2_keptBits 41 = .ok (.ior, 1) := by decide +kernel
theorem dX2_keptBits_42 : decode cX2_keptBits 42 = .ok (.istore_n 1, 1) := by decide +kernel
theorem dX2_keptBits_43 : decode cX2_keptBits 43 = .ok (.iinc 4 1, 3) := by decide +kernel
theorem dX2_keptBits_46 : decode cX2_keptBits 46 = .ok (.goto (-33), 3) := by decide +kernel
theorem dX2_keptBits_49 : decode cX2_keptBits 49 = .ok (.iload_n 1, 1) := by decide +kernel
theorem dX2_keptBits_50 : decode cX2_keptBits 50 = .ok (.ireturn, 1) := by decide +kernel
theorem dX2_countUnkept_0 : decode cX2_countUnkept 0 = .ok (.iconst 0, 1) := by decide +kernel
theorem dX2_countUnkept_1 : decode cX2_countUnkept 1 = .ok (.istore_n 1, 1) := by decide +kernel
theorem dX2_countUnkept_2 : decode cX2_countUnkept 2 = .ok (.aload_n 0, 1) := by decide +kernel
theorem dX2_countUnkept_3 : decode cX2_countUnkept 3 = .ok (.getfield 19, 3) := by decide +kernel
theorem dX2_countUnkept_6 : decode cX2_countUnkept 6 = .ok (.astore_n 2, 1) := by decide +kernel
theorem dX2_countUnkept_7 : decode cX2_countUnkept 7 = .ok (.aload_n 2, 1) := by decide +kernel
theorem dX2_countUnkept_8 : decode cX2_countUnkept 8 = .ok (.arraylength, 1) := by decide +kernel
theorem dX2_countUnkept_9 : decode cX2_countUnkept 9 = .ok (.istore_n 3, 1) := by decide +kernel
theorem dX2_countUnkept_10 : decode cX2_countUnkept 10 = .ok (.iconst 0, 1) := by decide +kernel
theorem dX2_countUnkept_11 : decode cX2_countUnkept 11 = .ok (.istore 4, 2) := by decide +kernel
theorem dX2_countUnkept_13 : decode cX2_countUnkept 13 = .ok (.iload 4, 2) := by decide +kernel
theorem dX2_countUnkept_15 : decode cX2_countUnkept 15 = .ok (.iload_n 3, 1) := by decide +kernel
theorem dX2_countUnkept_16 : decode cX2_countUnkept 16 = .ok (.if_icmp .ge 34, 3) := by decide +kernel
theorem dX2_countUnkept_19 : decode cX2_countUnkept 19 = .ok (.aload_n 2, 1) := by decide +kernel
theorem dX2_countUnkept_20 : decode cX2_countUnkept 20 = .ok (.iload 4, 2) := by decide +kernel
theorem dX2_countUnkept_22 : decode cX2_countUnkept 22 = .ok (.aaload, 1) := by decide +kernel
theorem dX2_countUnkept_23 : decode cX2_countUnkept 23 = .ok (.astore 5, 2) := by decide +kernel
theorem dX2_countUnkept_25 : decode cX2_countUnkept 25 = .ok (.aload 5, 2) := by decide +kernel
theorem dX2_countUnkept_27 : decode cX2_countUnkept 27 = .ok (.invokevirtual 62, 3) := by decide +kernel
theorem dX2_countUnkept_30 : decode cX2_countUnkept 30 = .ok (.ifCond .eq 14, 3) := by decide +kernel
theorem dX2_countUnkept_33 : decode cX2_countUnkept 33 = .ok (.aload 5, 2) := by decide +kernel
theorem dX2_countUnkept_35 : decode cX2_countUnkept 35 = .ok (.getfield 85, 3) := by decide +kernel
theorem dX2_countUnkept_38 : decode cX2_countUnkept 38 = .ok (.ifCond .ne 6, 3) := by decide +kernel
theorem dX2_countUnkept_41 : decode cX2_countUnkept 41 = .ok (.iinc 1 1, 3) := by decide +kernel
theorem dX2_countUnkept_44 : decode cX2_countUnkept 44 = .ok (.iinc 4 1, 3) := by decide +kernel
theorem dX2_countUnkept_47 : decode cX2_countUnkept 47 = .ok (.goto (-34), 3) := by decide +kernel
theorem dX2_countUnkept_50 : decode cX2_countUnkept 50 = .ok (.iload_n 1, 1) := by decide +kernel
theorem dX2_countUnkept_51 : decode cX2_countUnkept 51 = .ok (.ireturn, 1) := by decide +kernel
theorem dX2_hungryMorning_0 : decode cX2_hungryMorning 0 = .ok (.aload_n 0, 1) := by decide +kernel
theorem dX2_hungryMorning_1 : decode cX2_hungryMorning 1 = .ok (.invokevirtual 135, 3) := by decide +kernel
theorem dX2_hungryMorning_4 : decode cX2_hungryMorning 4 = .ok (.aload_n 0, 1) := by decide +kernel
theorem dX2_hungryMorning_5 : decode cX2_hungryMorning 5 = .ok (.invokevirtual 138, 3) := by decide +kernel
theorem dX2_hungryMorning_8 : decode cX2_hungryMorning 8 = .ok (.ireturn, 1) := by decide +kernel
theorem dX2_passMorning_0 : decode cX2_passMorning 0 = .ok (.aload_n 0, 1) := by decide +kernel
theorem dX2_passMorning_1 : decode cX2_passMorning 1 = .ok (.invokevirtual 135, 3) := by decide +kernel
theorem dX2_passMorning_4 : decode cX2_passMorning 4 = .ok (.aload_n 0, 1) := by decide +kernel
theorem dX2_passMorning_5 : decode cX2_passMorning 5 = .ok (.invokevirtual 138, 3) := by decide +kernel
theorem dX2_passMorning_8 : decode cX2_passMorning 8 = .ok (.istore_n 1, 1) := by decide +kernel
theorem dX2_passMorning_9 : decode cX2_passMorning 9 = .ok (.aload_n 0, 1) := by decide +kernel
theorem dX2_passMorning_10 : decode cX2_passMorning 10 = .ok (.getfield 11, 3) := by decide +kernel
theorem dX2_passMorning_13 : decode cX2_passMorning 13 = .ok (.astore_n 2, 1) := by decide +kernel
theorem dX2_passMorning_14 : decode cX2_passMorning 14 = .ok (.aload_n 2, 1) := by decide +kernel
theorem dX2_passMorning_15 : decode cX2_passMorning 15 = .ok (.arraylength, 1) := by decide +kernel
theorem dX2_passMorning_16 : decode cX2_passMorning 16 = .ok (.istore_n 3, 1) := by decide +kernel
theorem dX2_passMorning_17 : decode cX2_passMorning 17 = .ok (.iconst 0, 1) := by decide +kernel
theorem dX2_passMorning_18 : decode cX2_passMorning 18 = .ok (.istore 4, 2) := by decide +kernel
theorem dX2_passMorning_20 : decode cX2_passMorning 20 = .ok (.iload 4, 2) := by decide +kernel
theorem dX2_passMorning_22 : decode cX2_passMorning 22 = .ok (.iload_n 3, 1) := by decide +kernel
theorem dX2_passMorning_23 : decode cX2_passMorning 23 = .ok (.if_icmp .ge 20, 3) := by decide +kernel
theorem dX2_passMorning_26 : decode cX2_passMorning 26 = .ok (.aload_n 2, 1) := by decide +kernel
theorem dX2_passMorning_27 : decode cX2_passMorning 27 = .ok (.iload 4, 2) := by decide +kernel
theorem dX2_passMorning_29 : decode cX2_passMorning 29 = .ok (.aaload, 1) := by decide +kernel
theorem dX2_passMorning_30 : decode cX2_passMorning 30 = .ok (.astore 5, 2) := by decide +kernel
theorem dX2_passMorning_32 : decode cX2_passMorning 32 = .ok (.aload 5, 2) := by decide +kernel
theorem dX2_passMorning_34 : decode cX2_passMorning 34 = .ok (.invokevirtual 141, 3) := by decide +kernel
theorem dX2_passMorning_37 : decode cX2_passMorning 37 = .ok (.iinc 4 1, 3) := by decide +kernel
theorem dX2_passMorning_40 : decode cX2_passMorning 40 = .ok (.goto (-20), 3) := by decide +kernel
theorem dX2_passMorning_43 : decode cX2_passMorning 43 = .ok (.aload_n 0, 1) := by decide +kernel
theorem dX2_passMorning_44 : decode cX2_passMorning 44 = .ok (.getfield 19, 3) := by decide +kernel
theorem dX2_passMorning_47 : decode cX2_passMorning 47 = .ok (.astore_n 2, 1) := by decide +kernel
theorem dX2_passMorning_48 : decode cX2_passMorning 48 = .ok (.aload_n 2, 1) := by decide +kernel
theorem dX2_passMorning_49 : decode cX2_passMorning 49 = .ok (.arraylength, 1) := by decide +kernel
theorem dX2_passMorning_50 : decode cX2_passMorning 50 = .ok (.istore_n 3, 1) := by decide +kernel
theorem dX2_passMorning_51 : decode cX2_passMorning 51 = .ok (.iconst 0, 1) := by decide +kernel
theorem dX2_passMorning_52 : decode cX2_passMorning 52 = .ok (.istore 4, 2) := by decide +kernel
theorem dX2_passMorning_54 : decode cX2_passMorning 54 = .ok (.iload 4, 2) := by decide +kernel
theorem dX2_passMorning_56 : decode cX2_passMorning 56 = .ok (.iload_n 3, 1) := by decide +kernel
theorem dX2_passMorning_57 : decode cX2_passMorning 57 = .ok (.if_icmp .ge 20, 3) := by decide +kernel
theorem dX2_passMorning_60 : decode cX2_passMorning 60 = .ok (.aload_n 2, 1) := by decide +kernel
theorem dX2_passMorning_61 : decode cX2_passMorning 61 = .ok (.iload 4, 2) := by decide +kernel
theorem dX2_passMorning_63 : decode cX2_passMorning 63 = .ok (.aaload, 1) := by decide +kernel
theorem dX2_passMorning_64 : decode cX2_passMorning 64 = .ok (.astore 5, 2) := by decide +kernel
theorem dX2_passMorning_66 : decode cX2_passMorning 66 = .ok (.aload 5, 2) := by decide +kernel
theorem dX2_passMorning_68 : decode cX2_passMorning 68 = .ok (.invokevirtual 144, 3) := by decide +kernel
theorem dX2_passMorning_71 : decode cX2_passMorning 71 = .ok (.iinc 4 1, 3) := by decide +kernel
theorem dX2_passMorning_74 : decode cX2_passMorning 74 = .ok (.goto (-20), 3) := by decide +kernel
theorem dX2_passMorning_77 : decode cX2_passMorning 77 = .ok (.aload_n 0, 1) := by decide +kernel
theorem dX2_passMorning_78 : decode cX2_passMorning 78 = .ok (.dup, 1) := by decide +kernel
theorem dX2_passMorning_79 : decode cX2_passMorning 79 = .ok (.getfield 44, 3) := by decide +kernel
theorem dX2_passMorning_82 : decode cX2_passMorning 82 = .ok (.iconst 1, 1) := by decide +kernel
theorem dX2_passMorning_83 : decode cX2_passMorning 83 = .ok (.iadd, 1) := by decide +kernel
theorem dX2_passMorning_84 : decode cX2_passMorning 84 = .ok (.putfield 44, 3) := by decide +kernel
theorem dX2_passMorning_87 : decode cX2_passMorning 87 = .ok (.iload_n 1, 1) := by decide +kernel
theorem dX2_passMorning_88 : decode cX2_passMorning 88 = .ok (.ireturn, 1) := by decide +kernel
theorem dX2_passMornings_0 : decode cX2_passMornings 0 = .ok (.iconst 0, 1) := by decide +kernel
theorem dX2_passMornings_1 : decode cX2_passMornings 1 = .ok (.istore_n 2, 1) := by decide +kernel
theorem dX2_passMornings_2 : decode cX2_passMornings 2 = .ok (.iconst 0, 1) := by decide +kernel
theorem dX2_passMornings_3 : decode cX2_passMornings 3 = .ok (.istore_n 3, 1) := by decide +kernel
theorem dX2_passMornings_4 : decode cX2_passMornings 4 = .ok (.iload_n 3, 1) := by decide +kernel
theorem dX2_passMornings_5 : decode cX2_passMornings 5 = .ok (.iload_n 1, 1) := by decide +kernel
theorem dX2_passMornings_6 : decode cX2_passMornings 6 = .ok (.if_icmp .ge 16, 3) := by decide +kernel
theorem dX2_passMornings_9 : decode cX2_passMornings 9 = .ok (.iload_n 2, 1) := by decide +kernel
theorem dX2_passMornings_10 : decode cX2_passMornings 10 = .ok (.aload_n 0, 1) := by decide +kernel
theorem dX2_passMornings_11 : decode cX2_passMornings 11 = .ok (.invokevirtual 145, 3) := by decide +kernel
theorem dX2_passMornings_14 : decode cX2_passMornings 14 = .ok (.iadd, 1) := by decide +kernel
theorem dX2_passMornings_15 : decode cX2_passMornings 15 = .ok (.istore_n 2, 1) := by decide +kernel
theorem dX2_passMornings_16 : decode cX2_passMornings 16 = .ok (.iinc 3 1, 3) := by decide +kernel
theorem dX2_passMornings_19 : decode cX2_passMornings 19 = .ok (.goto (-15), 3) := by decide +kernel
theorem dX2_passMornings_22 : decode cX2_passMornings 22 = .ok (.iload_n 2, 1) := by decide +kernel
theorem dX2_passMornings_23 : decode cX2_passMornings 23 = .ok (.ireturn, 1) := by decide +kernel
theorem dX2_firstHungryMorning_0 : decode cX2_firstHungryMorning 0 = .ok (.iconst 1, 1) := by decide +kernel
theorem dX2_firstHungryMorning_1 : decode cX2_firstHungryMorning 1 = .ok (.istore_n 2, 1) := by decide +kernel
theorem dX2_firstHungryMorning_2 : decode cX2_firstHungryMorning 2 = .ok (.iload_n 2, 1) := by decide +kernel
theorem dX2_firstHungryMorning_3 : decode cX2_firstHungryMorning 3 = .ok (.iload_n 1, 1) := by decide +kernel
theorem dX2_firstHungryMorning_4 : decode cX2_firstHungryMorning 4 = .ok (.if_icmp .gt 18, 3) := by decide +kernel
theorem dX2_firstHungryMorning_7 : decode cX2_firstHungryMorning 7 = .ok (.aload_n 0, 1) := by decide +kernel
theorem dX2_firstHungryMorning_8 : decode cX2_firstHungryMorning 8 = .ok (.invokevirtual 145, 3) := by decide +kernel
theorem dX2_firstHungryMorning_11 : decode cX2_firstHungryMorning 11 = .ok (.ifCond .le 5, 3) := by decide +kernel
theorem dX2_firstHungryMorning_14 : decode cX2_firstHungryMorning 14 = .ok (.iload_n 2, 1) := by decide +kernel
theorem dX2_firstHungryMorning_15 : decode cX2_firstHungryMorning 15 = .ok (.ireturn, 1) := by decide +kernel
theorem dX2_firstHungryMorning_16 : decode cX2_firstHungryMorning 16 = .ok (.iinc 2 1, 3) := by decide +kernel
theorem dX2_firstHungryMorning_19 : decode cX2_firstHungryMorning 19 = .ok (.goto (-17), 3) := by decide +kernel
theorem dX2_firstHungryMorning_22 : decode cX2_firstHungryMorning 22 = .ok (.iconst (-1), 1) := by decide +kernel
theorem dX2_firstHungryMorning_23 : decode cX2_firstHungryMorning 23 = .ok (.ireturn, 1) := by decide +kernel
theorem dX2_draw_0 : decode cX2_draw 0 = .ok (.aload_n 0, 1) := by decide +kernel
theorem dX2_draw_1 : decode cX2_draw 1 = .ok (.aload_n 0, 1) := by decide +kernel
theorem dX2_draw_2 : decode cX2_draw 2 = .ok (.getfield 23, 3) := by decide +kernel
theorem dX2_draw_5 : decode cX2_draw 5 = .ok (.ldc 148, 2) := by decide +kernel
theorem dX2_draw_7 : decode cX2_draw 7 = .ok (.imul, 1) := by decide +kernel
theorem dX2_draw_8 : decode cX2_draw 8 = .ok (.sipush 12345, 3) := by decide +kernel
theorem dX2_draw_11 : decode cX2_draw 11 = .ok (.iadd, 1) := by decide +kernel
theorem dX2_draw_12 : decode cX2_draw 12 = .ok (.putfield 23, 3) := by decide +kernel
theorem dX2_draw_15 : decode cX2_draw 15 = .ok (.iload_n 1, 1) := by decide +kernel
theorem dX2_draw_16 : decode cX2_draw 16 = .ok (.ifCond .le 15, 3) := by decide +kernel
theorem dX2_draw_19 : decode cX2_draw 19 = .ok (.aload_n 0, 1) := by decide +kernel
theorem dX2_draw_20 : decode cX2_draw 20 = .ok (.getfield 23, 3) := by decide +kernel
theorem dX2_draw_23 : decode cX2_draw 23 = .ok (.bipush 16, 2) := by decide +kernel
theorem dX2_draw_25 : decode cX2_draw 25 = .ok (.iushr, 1) := by decide +kernel
theorem dX2_draw_26 : decode cX2_draw 26 = .ok (.iload_n 1, 1) := by decide +kernel
theorem dX2_draw_27 : decode cX2_draw 27 = .ok (.irem, 1) := by decide +kernel
theorem dX2_draw_28 : decode cX2_draw 28 = .ok (.goto 4, 3) := by decide +kernel
theorem dX2_draw_31 : decode cX2_draw 31 = .ok (.iconst 0, 1) := by decide +kernel
theorem dX2_draw_32 : decode cX2_draw 32 = .ok (.ireturn, 1) := by decide +kernel
theorem dX2_drawWhoHides_0 : decode cX2_drawWhoHides 0 = .ok (.aload_n 0, 1) := by decide +kernel
theorem dX2_drawWhoHides_1 : decode cX2_drawWhoHides 1 = .ok (.getfield 11, 3) := by decide +kernel
theorem dX2_drawWhoHides_4 : decode cX2_drawWhoHides 4 = .ok (.astore_n 1, 1) := by decide +kernel
theorem dX2_drawWhoHides_5 : decode cX2_drawWhoHides 5 = .ok (.aload_n 1, 1) := by decide +kernel
theorem dX2_drawWhoHides_6 : decode cX2_drawWhoHides 6 = .ok (.arraylength, 1) := by decide +kernel
theorem dX2_drawWhoHides_7 : decode cX2_drawWhoHides 7 = .ok (.istore_n 2, 1) := by decide +kernel
theorem dX2_drawWhoHides_8 : decode cX2_drawWhoHides 8 = .ok (.iconst 0, 1) := by decide +kernel
theorem dX2_drawWhoHides_9 : decode cX2_drawWhoHides 9 = .ok (.istore_n 3, 1) := by decide +kernel
theorem dX2_drawWhoHides_10 : decode cX2_drawWhoHides 10 = .ok (.iload_n 3, 1) := by decide +kernel
theorem dX2_drawWhoHides_11 : decode cX2_drawWhoHides 11 = .ok (.iload_n 2, 1) := by decide +kernel
theorem dX2_drawWhoHides_12 : decode cX2_drawWhoHides 12 = .ok (.if_icmp .ge 49, 3) := by decide +kernel
theorem dX2_drawWhoHides_15 : decode cX2_drawWhoHides 15 = .ok (.aload_n 1, 1) := by decide +kernel
theorem dX2_drawWhoHides_16 : decode cX2_drawWhoHides 16 = .ok (.iload_n 3, 1) := by decide +kernel
theorem dX2_drawWhoHides_17 : decode cX2_drawWhoHides 17 = .ok (.aaload, 1) := by decide +kernel
theorem dX2_drawWhoHides_18 : decode cX2_drawWhoHides 18 = .ok (.astore 4, 2) := by decide +kernel
theorem dX2_drawWhoHides_20 : decode cX2_drawWhoHides 20 = .ok (.aload 4, 2) := by decide +kernel
theorem dX2_drawWhoHides_22 : decode cX2_drawWhoHides 22 = .ok (.getfield 68, 3) := by decide +kernel
theorem dX2_drawWhoHides_25 : decode cX2_drawWhoHides 25 = .ok (.ifCond .eq 30, 3) := by decide +kernel
theorem dX2_drawWhoHides_28 : decode cX2_drawWhoHides 28 = .ok (.aload 4, 2) := by decide +kernel
theorem dX2_drawWhoHides_30 : decode cX2_drawWhoHides 30 = .ok (.aload_n 0, 1) := by decide +kernel
theorem dX2_drawWhoHides_31 : decode cX2_drawWhoHides 31 = .ok (.bipush 10, 2) := by decide +kernel
theorem dX2_drawWhoHides_33 : decode cX2_drawWhoHides 33 = .ok (.invokevirtual 149, 3) := by decide +kernel
theorem dX2_drawWhoHides_36 : decode cX2_drawWhoHides 36 = .ok (.aload 4, 2) := by decide +kernel
theorem dX2_drawWhoHides_38 : decode cX2_drawWhoHides 38 = .ok (.getfield 72, 3) := by decide +kernel
theorem dX2_drawWhoHides_41 : decode cX2_drawWhoHides 41 = .ok (.bipush 10, 2) := by decide +kernel
theorem dX2_drawWhoHides_43 : decode cX2_drawWhoHides 43 = .ok (.idiv, 1) := by decide +kernel
theorem dX2_drawWhoHides_44 : decode cX2_drawWhoHides 44 = .ok (.if_icmp .ge 7, 3) := by decide +kernel
theorem dX2_drawWhoHides_47 : decode cX2_drawWhoHides 47 = .ok (.iconst 1, 1) := by decide +kernel
theorem dX2_drawWhoHides_48 : decode cX2_drawWhoHides 48 = .ok (.goto 4, 3) := by decide +kernel
theorem dX2_drawWhoHides_51 : decode cX2_drawWhoHides 51 = .ok (.iconst 0, 1) := by decide +kernel
theorem dX2_drawWhoHides_52 : decode cX2_drawWhoHides 52 = .ok (.putfield 153, 3) := by decide +kernel
theorem dX2_drawWhoHides_55 : decode cX2_drawWhoHides 55 = .ok (.iinc 3 1, 3) := by decide +kernel
theorem dX2_drawWhoHides_58 : decode cX2_drawWhoHides 58 = .ok (.goto (-48), 3) := by decide +kernel
theorem dX2_drawWhoHides_61 : decode cX2_drawWhoHides 61 = .ok (.return_, 1) := by decide +kernel
theorem dX2_isPickedWithHeart_0 : decode cX2_isPickedWithHeart 0 = .ok (.aload_n 0, 1) := by decide +kernel
theorem dX2_isPickedWithHeart_1 : decode cX2_isPickedWithHeart 1 = .ok (.iload_n 1, 1) := by decide +kernel
theorem dX2_isPickedWithHeart_2 : decode cX2_isPickedWithHeart 2 = .ok (.invokevirtual 123, 3) := by decide +kernel
theorem dX2_isPickedWithHeart_5 : decode cX2_isPickedWithHeart 5 = .ok (.astore_n 3, 1) := by decide +kernel
theorem dX2_isPickedWithHeart_6 : decode cX2_isPickedWithHeart 6 = .ok (.aload_n 3, 1) := by decide +kernel
theorem dX2_isPickedWithHeart_7 : decode cX2_isPickedWithHeart 7 = .ok (.ifnonnull 5, 3) := by decide +kernel
theorem dX2_isPickedWithHeart_10 : decode cX2_isPickedWithHeart 10 = .ok (.iconst 0, 1) := by decide +kernel
theorem dX2_isPickedWithHeart_11 : decode cX2_isPickedWithHeart 11 = .ok (.ireturn, 1) := by decide +kernel
theorem dX2_isPickedWithHeart_12 : decode cX2_isPickedWithHeart 12 = .ok (.aload_n 3, 1) := by decide +kernel
theorem dX2_isPickedWithHeart_13 : decode cX2_isPickedWithHeart 13 = .ok (.iload_n 2, 1) := by decide +kernel
theorem dX2_isPickedWithHeart_14 : decode cX2_isPickedWithHeart 14 = .ok (.putfield 156, 3) := by decide +kernel
theorem dX2_isPickedWithHeart_17 : decode cX2_isPickedWithHeart 17 = .ok (.aload_n 0, 1) := by decide +kernel
theorem dX2_isPickedWithHeart_18 : decode cX2_isPickedWithHeart 18 = .ok (.invokevirtual 135, 3) := by decide +kernel
theorem dX2_isPickedWithHeart_21 : decode cX2_isPickedWithHeart 21 = .ok (.aload_n 3, 1) := by decide +kernel
theorem dX2_isPickedWithHeart_22 : decode cX2_isPickedWithHeart 22 = .ok (.getfield 159, 3) := by decide +kernel
theorem dX2_isPickedWithHeart_25 : decode cX2_isPickedWithHeart 25 = .ok (.ifCond .eq 7, 3) := by decide +kernel
theorem dX2_isPickedWithHeart_28 : decode cX2_isPickedWithHeart 28 = .ok (.iconst 1, 1) := by decide +kernel
theorem dX2_isPickedWithHeart_29 : decode cX2_isPickedWithHeart 29 = .ok (.goto 4, 3) := by decide +kernel
theorem dX2_isPickedWithHeart_32 : decode cX2_isPickedWithHeart 32 = .ok (.iconst 0, 1) := by decide +kernel
theorem dX2_isPickedWithHeart_33 : decode cX2_isPickedWithHeart 33 = .ok (.ireturn, 1) := by decide +kernel
theorem dX2_pickByRule_0 : decode cX2_pickByRule 0 = .ok (.aload_n 0, 1) := by decide +kernel
theorem dX2_pickByRule_1 : decode cX2_pickByRule 1 = .ok (.iload_n 1, 1) := by decide +kernel
theorem dX2_pickByRule_2 : decode cX2_pickByRule 2 = .ok (.invokevirtual 162, 3) := by decide +kernel
theorem dX2_pickByRule_5 : decode cX2_pickByRule 5 = .ok (.astore_n 3, 1) := by decide +kernel
theorem dX2_pickByRule_6 : decode cX2_pickByRule 6 = .ok (.aload_n 3, 1) := by decide +kernel
theorem dX2_pickByRule_7 : decode cX2_pickByRule 7 = .ok (.ifnonnull 5, 3) := by decide +kernel
theorem dX2_pickByRule_10 : decode cX2_pickByRule 10 = .ok (.iconst (-1), 1) := by decide +kernel
theorem dX2_pickByRule_11 : decode cX2_pickByRule 11 = .ok (.ireturn, 1) := by decide +kernel
theorem dX2_pickByRule_12 : decode cX2_pickByRule 12 = .ok (.aload_n 3, 1) := by decide +kernel
theorem dX2_pickByRule_13 : decode cX2_pickByRule 13 = .ok (.iload_n 2, 1) := by decide +kernel
theorem dX2_pickByRule_14 : decode cX2_pickByRule 14 = .ok (.putfield 95, 3) := by decide +kernel
theorem dX2_pickByRule_17 : decode cX2_pickByRule 17 = .ok (.aload_n 0, 1) := by decide +kernel
theorem dX2_pickByRule_18 : decode cX2_pickByRule 18 = .ok (.invokevirtual 135, 3) := by decide +kernel
theorem dX2_pickByRule_21 : decode cX2_pickByRule 21 = .ok (.aload_n 3, 1) := by decide +kernel
theorem dX2_pickByRule_22 : decode cX2_pickByRule 22 = .ok (.getfield 82, 3) := by decide +kernel
theorem dX2_pickByRule_25 : decode cX2_pickByRule 25 = .ok (.ireturn, 1) := by decide +kernel
theorem dX2_mostBurdened_0 : decode cX2_mostBurdened 0 = .ok (.iconst 0, 1) := by decide +kernel
theorem dX2_mostBurdened_1 : decode cX2_mostBurdened 1 = .ok (.istore_n 1, 1) := by decide +kernel
theorem dX2_mostBurdened_2 : decode cX2_mostBurdened 2 = .ok (.iconst (-1), 1) := by decide +kernel
theorem dX2_mostBurdened_3 : decode cX2_mostBurdened 3 = .ok (.istore_n 2, 1) := by decide +kernel
theorem dX2_mostBurdened_4 : decode cX2_mostBurdened 4 = .ok (.aload_n 0, 1) := by decide +kernel
theorem dX2_mostBurdened_5 : decode cX2_mostBurdened 5 = .ok (.getfield 11, 3) := by decide +kernel
theorem dX2_mostBurdened_8 : decode cX2_mostBurdened 8 = .ok (.astore_n 3, 1) := by decide +kernel
theorem dX2_mostBurdened_9 : decode cX2_mostBurdened 9 = .ok (.aload_n 3, 1) := by decide +kernel
theorem dX2_mostBurdened_10 : decode cX2_mostBurdened 10 = .ok (.arraylength, 1) := by decide +kernel
theorem dX2_mostBurdened_11 : decode cX2_mostBurdened 11 = .ok (.istore 4, 2) := by decide +kernel
theorem dX2_mostBurdened_13 : decode cX2_mostBurdened 13 = .ok (.iconst 0, 1) := by decide +kernel
theorem dX2_mostBurdened_14 : decode cX2_mostBurdened 14 = .ok (.istore 5, 2) := by decide +kernel
theorem dX2_mostBurdened_16 : decode cX2_mostBurdened 16 = .ok (.iload 5, 2) := by decide +kernel
theorem dX2_mostBurdened_18 : decode cX2_mostBurdened 18 = .ok (.iload 4, 2) := by decide +kernel
theorem dX2_mostBurdened_20 : decode cX2_mostBurdened 20 = .ok (.if_icmp .ge 44, 3) := by decide +kernel
theorem dX2_mostBurdened_23 : decode cX2_mostBurdened 23 = .ok (.aload_n 3, 1) := by decide +kernel
theorem dX2_mostBurdened_24 : decode cX2_mostBurdened 24 = .ok (.iload 5, 2) := by decide +kernel
theorem dX2_mostBurdened_26 : decode cX2_mostBurdened 26 = .ok (.aaload, 1) := by decide +kernel
theorem dX2_mostBurdened_27 : decode cX2_mostBurdened 27 = .ok (.astore 6, 2) := by decide +kernel
theorem dX2_mostBurdened_29 : decode cX2_mostBurdened 29 = .ok (.aload 6, 2) := by decide +kernel
theorem dX2_mostBurdened_31 : decode cX2_mostBurdened 31 = .ok (.invokevirtual 54, 3) := by decide +kernel
theorem dX2_mostBurdened_34 : decode cX2_mostBurdened 34 = .ok (.ifCond .eq 24, 3) := by decide +kernel
theorem dX2_mostBurdened_37 : decode cX2_mostBurdened 37 = .ok (.aload 6, 2) := by decide +kernel
theorem dX2_mostBurdened_39 : decode cX2_mostBurdened 39 = .ok (.getfield 166, 3) := by decide +kernel
theorem dX2_mostBurdened_42 : decode cX2_mostBurdened 42 = .ok (.iload_n 1, 1) := by decide +kernel
theorem dX2_mostBurdened_43 : decode cX2_mostBurdened 43 = .ok (.if_icmp .le 15, 3) := by decide +kernel
theorem dX2_mostBurdened_46 : decode cX2_mostBurdened 46 = .ok (.aload 6, 2) := by decide +kernel
theorem dX2_mostBurdened_48 : decode cX2_mostBurdened 48 = .ok (.getfield 166, 3) := by decide +kernel
theorem dX2_mostBurdened_51 : decode cX2_mostBurdened 51 = .ok (.istore_n 1, 1) := by decide +kernel
theorem dX2_mostBurdened_52 : decode cX2_mostBurdened 52 = .ok (.aload 6, 2) := by decide +kernel
theorem dX2_mostBurdened_54 : decode cX2_mostBurdened 54 = .ok (.getfield 169, 3) := by decide +kernel
theorem dX2_mostBurdened_57 : decode cX2_mostBurdened 57 = .ok (.istore_n 2, 1) := by decide +kernel
theorem dX2_mostBurdened_58 : decode cX2_mostBurdened 58 = .ok (.iinc 5 1, 3) := by decide +kernel
theorem dX2_mostBurdened_61 : decode cX2_mostBurdened 61 = .ok (.goto (-45), 3) := by decide +kernel
theorem dX2_mostBurdened_64 : decode cX2_mostBurdened 64 = .ok (.iload_n 2, 1) := by decide +kernel
theorem dX2_mostBurdened_65 : decode cX2_mostBurdened 65 = .ok (.ireturn, 1) := by decide +kernel
theorem dX2_firstWrong_0 : decode cX2_firstWrong 0 = .ok (.iconst 0, 1) := by decide +kernel
theorem dX2_firstWrong_1 : decode cX2_firstWrong 1 = .ok (.istore_n 3, 1) := by decide +kernel
theorem dX2_firstWrong_2 : decode cX2_firstWrong 2 = .ok (.aload_n 0, 1) := by decide +kernel
theorem dX2_firstWrong_3 : decode cX2_firstWrong 3 = .ok (.getfield 19, 3) := by decide +kernel
theorem dX2_firstWrong_6 : decode cX2_firstWrong 6 = .ok (.astore 4, 2) := by decide +kernel
theorem dX2_firstWrong_8 : decode cX2_firstWrong 8 = .ok (.aload 4, 2) := by decide +kernel
theorem dX2_firstWrong_10 : decode cX2_firstWrong 10 = .ok (.arraylength, 1) := by decide +kernel
theorem dX2_firstWrong_11 : decode cX2_firstWrong 11 = .ok (.istore 5, 2) := by decide +kernel
theorem dX2_firstWrong_13 : decode cX2_firstWrong 13 = .ok (.iconst 0, 1) := by decide +kernel
theorem dX2_firstWrong_14 : decode cX2_firstWrong 14 = .ok (.istore 6, 2) := by decide +kernel
theorem dX2_firstWrong_16 : decode cX2_firstWrong 16 = .ok (.iload 6, 2) := by decide +kernel
theorem dX2_firstWrong_18 : decode cX2_firstWrong 18 = .ok (.iload 5, 2) := by decide +kernel
theorem dX2_firstWrong_20 : decode cX2_firstWrong 20 = .ok (.if_icmp .ge 50, 3) := by decide +kernel
theorem dX2_firstWrong_23 : decode cX2_firstWrong 23 = .ok (.aload 4, 2) := by decide +kernel
theorem dX2_firstWrong_25 : decode cX2_firstWrong 25 = .ok (.iload 6, 2) := by decide +kernel
theorem dX2_firstWrong_27 : decode cX2_firstWrong 27 = .ok (.aaload, 1) := by decide +kernel
theorem dX2_firstWrong_28 : decode cX2_firstWrong 28 = .ok (.astore 7, 2) := by decide +kernel
theorem dX2_firstWrong_30 : decode cX2_firstWrong 30 = .ok (.aload 7, 2) := by decide +kernel
theorem dX2_firstWrong_32 : decode cX2_firstWrong 32 = .ok (.invokevirtual 62, 3) := by decide +kernel
theorem dX2_firstWrong_35 : decode cX2_firstWrong 35 = .ok (.ifCond .ne 6, 3) := by decide +kernel
theorem dX2_firstWrong_38 : decode cX2_firstWrong 38 = .ok (.goto 26, 3) := by decide +kernel
theorem dX2_firstWrong_41 : decode cX2_firstWrong 41 = .ok (.iload_n 3, 1) := by decide +kernel
theorem dX2_firstWrong_42 : decode cX2_firstWrong 42 = .ok (.iload_n 2, 1) := by decide +kernel
theorem dX2_firstWrong_43 : decode cX2_firstWrong 43 = .ok (.if_icmp .ge 16, 3) := by decide +kernel
theorem dX2_firstWrong_46 : decode cX2_firstWrong 46 = .ok (.aload_n 1, 1) := by decide +kernel
theorem dX2_firstWrong_47 : decode cX2_firstWrong 47 = .ok (.iload_n 3, 1) := by decide +kernel
theorem dX2_firstWrong_48 : decode cX2_firstWrong 48 = .ok (.invokevirtual 170, 3) := by decide +kernel
theorem dX2_firstWrong_51 : decode cX2_firstWrong 51 = .ok (.aload 7, 2) := by decide +kernel
theorem dX2_firstWrong_53 : decode cX2_firstWrong 53 = .ok (.getfield 82, 3) := by decide +kernel
theorem dX2_firstWrong_56 : decode cX2_firstWrong 56 = .ok (.if_icmp .eq 5, 3) := by decide +kernel
theorem dX2_firstWrong_59 : decode cX2_firstWrong 59 = .ok (.iload_n 3, 1) := by decide +kernel
theorem dX2_firstWrong_60 : decode cX2_firstWrong 60 = .ok (.ireturn, 1) := by decide +kernel
theorem dX2_firstWrong_61 : decode cX2_firstWrong 61 = .ok (.iinc 3 1, 3) := by decide +kernel
theorem dX2_firstWrong_64 : decode cX2_firstWrong 64 = .ok (.iinc 6 1, 3) := by decide +kernel
theorem dX2_firstWrong_67 : decode cX2_firstWrong 67 = .ok (.goto (-51), 3) := by decide +kernel
theorem dX2_firstWrong_70 : decode cX2_firstWrong 70 = .ok (.iload_n 3, 1) := by decide +kernel
theorem dX2_firstWrong_71 : decode cX2_firstWrong 71 = .ok (.iload_n 2, 1) := by decide +kernel
theorem dX2_firstWrong_72 : decode cX2_firstWrong 72 = .ok (.if_icmp .ge 7, 3) := by decide +kernel
theorem dX2_firstWrong_75 : decode cX2_firstWrong 75 = .ok (.iload_n 3, 1) := by decide +kernel
theorem dX2_firstWrong_76 : decode cX2_firstWrong 76 = .ok (.goto 4, 3) := by decide +kernel
theorem dX2_firstWrong_79 : decode cX2_firstWrong 79 = .ok (.iconst (-1), 1) := by decide +kernel
theorem dX2_firstWrong_80 : decode cX2_firstWrong 80 = .ok (.ireturn, 1) := by decide +kernel
theorem dX2_partAll_0 : decode cX2_partAll 0 = .ok (.iconst 0, 1) := by decide +kernel
theorem dX2_partAll_1 : decode cX2_partAll 1 = .ok (.istore_n 1, 1) := by decide +kernel
theorem dX2_partAll_2 : decode cX2_partAll 2 = .ok (.aload_n 0, 1) := by decide +kernel
theorem dX2_partAll_3 : decode cX2_partAll 3 = .ok (.getfield 19, 3) := by decide +kernel
theorem dX2_partAll_6 : decode cX2_partAll 6 = .ok (.astore_n 2, 1) := by decide +kernel
theorem dX2_partAll_7 : decode cX2_partAll 7 = .ok (.aload_n 2, 1) := by decide +kernel
theorem dX2_partAll_8 : decode cX2_partAll 8 = .ok (.arraylength, 1) := by decide +kernel
theorem dX2_partAll_9 : decode cX2_partAll 9 = .ok (.istore_n 3, 1) := by decide +kernel
theorem dX2_partAll_10 : decode cX2_partAll 10 = .ok (.iconst 0, 1) := by decide +kernel
theorem dX2_partAll_11 : decode cX2_partAll 11 = .ok (.istore 4, 2) := by decide +kernel
theorem dX2_partAll_13 : decode cX2_partAll 13 = .ok (.iload 4, 2) := by decide +kernel
theorem dX2_partAll_15 : decode cX2_partAll 15 = .ok (.iload_n 3, 1) := by decide +kernel
theorem dX2_partAll_16 : decode cX2_partAll 16 = .ok (.if_icmp .ge 35, 3) := by decide +kernel
theorem dX2_partAll_19 : decode cX2_partAll 19 = .ok (.aload_n 2, 1) := by decide +kernel
theorem dX2_partAll_20 : decode cX2_partAll 20 = .ok (.iload 4, 2) := by decide +kernel
theorem dX2_partAll_22 : decode cX2_partAll 22 = .ok (.aaload, 1) := by decide +kernel
theorem dX2_partAll_23 : decode cX2_partAll 23 = .ok (.astore 5, 2) := by decide +kernel
theorem dX2_partAll_25 : decode cX2_partAll 25 = .ok (.iload_n 1, 1) := by decide +kernel
theorem dX2_partAll_26 : decode cX2_partAll 26 = .ok (.aload 5, 2) := by decide +kernel
theorem dX2_partAll_28 : decode cX2_partAll 28 = .ok (.invokevirtual 62, 3) := by decide +kernel
theorem dX2_partAll_31 : decode cX2_partAll 31 = .ok (.ifCond .eq 11, 3) := by decide +kernel
theorem dX2_partAll_34 : decode cX2_partAll 34 = .ok (.aload 5, 2) := by decide +kernel
theorem dX2_partAll_36 : decode cX2_partAll 36 = .ok (.getfield 175, 3) := by decide +kernel
theorem dX2_partAll_39 : decode cX2_partAll 39 = .ok (.goto 4, 3) := by decide +kernel
theorem dX2_partAll_42 : decode cX2_partAll 42 = .ok (.iconst 0, 1) := by decide +kernel
theorem dX2_partAll_43 : decode cX2_partAll 43 = .ok (.iadd, 1) := by decide +kernel
theorem dX2_partAll_44 : decode cX2_partAll 44 = .ok (.istore_n 1, 1) := by decide +kernel
theorem dX2_partAll_45 : decode cX2_partAll 45 = .ok (.iinc 4 1, 3) := by decide +kernel
theorem dX2_partAll_48 : decode cX2_partAll 48 = .ok (.goto (-35), 3) := by decide +kernel
theorem dX2_partAll_51 : decode cX2_partAll 51 = .ok (.aload_n 0, 1) := by decide +kernel
theorem dX2_partAll_52 : decode cX2_partAll 52 = .ok (.getfield 11, 3) := by decide +kernel
theorem dX2_partAll_55 : decode cX2_partAll 55 = .ok (.astore_n 2, 1) := by decide +kernel
theorem dX2_partAll_56 : decode cX2_partAll 56 = .ok (.aload_n 2, 1) := by decide +kernel
theorem dX2_partAll_57 : decode cX2_partAll 57 = .ok (.arraylength, 1) := by decide +kernel
theorem dX2_partAll_58 : decode cX2_partAll 58 = .ok (.istore_n 3, 1) := by decide +kernel
theorem dX2_partAll_59 : decode cX2_partAll 59 = .ok (.iconst 0, 1) := by decide +kernel
theorem dX2_partAll_60 : decode cX2_partAll 60 = .ok (.istore 4, 2) := by decide +kernel
theorem dX2_partAll_62 : decode cX2_partAll 62 = .ok (.iload 4, 2) := by decide +kernel
theorem dX2_partAll_64 : decode cX2_partAll 64 = .ok (.iload_n 3, 1) := by decide +kernel
theorem dX2_partAll_65 : decode cX2_partAll 65 = .ok (.if_icmp .ge 21, 3) := by decide +kernel
theorem dX2_partAll_68 : decode cX2_partAll 68 = .ok (.aload_n 2, 1) := by decide +kernel
theorem dX2_partAll_69 : decode cX2_partAll 69 = .ok (.iload 4, 2) := by decide +kernel
theorem dX2_partAll_71 : decode cX2_partAll 71 = .ok (.aaload, 1) := by decide +kernel
theorem dX2_partAll_72 : decode cX2_partAll 72 = .ok (.astore 5, 2) := by decide +kernel
theorem dX2_partAll_74 : decode cX2_partAll 74 = .ok (.aload 5, 2) := by decide +kernel
theorem dX2_partAll_76 : decode cX2_partAll 76 = .ok (.iconst 0, 1) := by decide +kernel
theorem dX2_partAll_77 : decode cX2_partAll 77 = .ok (.putfield 178, 3) := by decide +kernel
theorem dX2_partAll_80 : decode cX2_partAll 80 = .ok (.iinc 4 1, 3) := by decide +kernel
theorem dX2_partAll_83 : decode cX2_partAll 83 = .ok (.goto (-21), 3) := by decide +kernel
theorem dX2_partAll_86 : decode cX2_partAll 86 = .ok (.aload_n 0, 1) := by decide +kernel
theorem dX2_partAll_87 : decode cX2_partAll 87 = .ok (.invokevirtual 58, 3) := by decide +kernel
theorem dX2_partAll_90 : decode cX2_partAll 90 = .ok (.istore_n 2, 1) := by decide +kernel
theorem dX2_partAll_91 : decode cX2_partAll 91 = .ok (.aload_n 0, 1) := by decide +kernel
theorem dX2_partAll_92 : decode cX2_partAll 92 = .ok (.iload_n 2, 1) := by decide +kernel
theorem dX2_partAll_93 : decode cX2_partAll 93 = .ok (.ifCond .le 13, 3) := by decide +kernel
theorem dX2_partAll_96 : decode cX2_partAll 96 = .ok (.iload_n 1, 1) := by decide +kernel
theorem dX2_partAll_97 : decode cX2_partAll 97 = .ok (.iload_n 2, 1) := by decide +kernel
theorem dX2_partAll_98 : decode cX2_partAll 98 = .ok (.iadd, 1) := by decide +kernel
theorem dX2_partAll_99 : decode cX2_partAll 99 = .ok (.iconst 1, 1) := by decide +kernel
theorem dX2_partAll_100 : decode cX2_partAll 100 = .ok (.isub, 1) := by decide +kernel
theorem dX2_partAll_101 : decode cX2_partAll 101 = .ok (.iload_n 2, 1) := by decide +kernel
theorem dX2_partAll_102 : decode cX2_partAll 102 = .ok (.idiv, 1) := by decide +kernel
theorem dX2_partAll_103 : decode cX2_partAll 103 = .ok (.goto 4, 3) := by decide +kernel
theorem dX2_partAll_106 : decode cX2_partAll 106 = .ok (.iconst 0, 1) := by decide +kernel
theorem dX2_partAll_107 : decode cX2_partAll 107 = .ok (.putfield 181, 3) := by decide +kernel
theorem dX2_partAll_110 : decode cX2_partAll 110 = .ok (.aload_n 0, 1) := by decide +kernel
theorem dX2_partAll_111 : decode cX2_partAll 111 = .ok (.sipush 1000, 3) := by decide +kernel
theorem dX2_partAll_114 : decode cX2_partAll 114 = .ok (.putfield 184, 3) := by decide +kernel
theorem dX2_partAll_117 : decode cX2_partAll 117 = .ok (.aload_n 0, 1) := by decide +kernel
theorem dX2_partAll_118 : decode cX2_partAll 118 = .ok (.iconst 0, 1) := by decide +kernel
theorem dX2_partAll_119 : decode cX2_partAll 119 = .ok (.iconst 0, 1) := by decide +kernel
theorem dX2_partAll_120 : decode cX2_partAll 120 = .ok (.invokevirtual 187, 3) := by decide +kernel
theorem dX2_partAll_123 : decode cX2_partAll 123 = .ok (.aload_n 0, 1) := by decide +kernel
theorem dX2_partAll_124 : decode cX2_partAll 124 = .ok (.getfield 184, 3) := by decide +kernel
theorem dX2_partAll_127 : decode cX2_partAll 127 = .ok (.sipush 1000, 3) := by decide +kernel
theorem dX2_partAll_130 : decode cX2_partAll 130 = .ok (.if_icmp .ne 7, 3) := by decide +kernel
theorem dX2_partAll_133 : decode cX2_partAll 133 = .ok (.iconst (-1), 1) := by decide +kernel
theorem dX2_partAll_134 : decode cX2_partAll 134 = .ok (.goto 7, 3) := by decide +kernel
theorem dX2_partAll_137 : decode cX2_partAll 137 = .ok (.aload_n 0, 1) := by decide +kernel
theorem dX2_partAll_138 : decode cX2_partAll 138 = .ok (.getfield 184, 3) := by decide +kernel
theorem dX2_partAll_141 : decode cX2_partAll 141 = .ok (.ireturn, 1) := by decide +kernel
theorem dX2_partFrom_0 : decode cX2_partFrom 0 = .ok (.iload_n 1, 1) := by decide +kernel
theorem dX2_partFrom_1 : decode cX2_partFrom 1 = .ok (.ifCond .lt 12, 3) := by decide +kernel
theorem dX2_partFrom_4 : decode cX2_partFrom 4 = .ok (.iload_n 1, 1) := by decide +kernel
theorem dX2_partFrom_5 : decode cX2_partFrom 5 = .ok (.aload_n 0, 1) := by decide +kernel
theorem dX2_partFrom_6 : decode cX2_partFrom 6 = .ok (.getfield 19, 3) := by decide +kernel
theorem dX2_partFrom_9 : decode cX2_partFrom 9 = .ok (.arraylength, 1) := by decide +kernel
theorem dX2_partFrom_10 : decode cX2_partFrom 10 = .ok (.if_icmp .lt 9, 3) := by decide +kernel
theorem dX2_partFrom_13 : decode cX2_partFrom 13 = .ok (.aload_n 0, 1) := by decide +kernel
theorem dX2_partFrom_14 : decode cX2_partFrom 14 = .ok (.iload_n 2, 1) := by decide +kernel
theorem dX2_partFrom_15 : decode cX2_partFrom 15 = .ok (.invokevirtual 190, 3) := by decide +kernel
theorem dX2_partFrom_18 : decode cX2_partFrom 18 = .ok (.return_, 1) := by decide +kernel
theorem dX2_partFrom_19 : decode cX2_partFrom 19 = .ok (.aload_n 0, 1) := by decide +kernel
theorem dX2_partFrom_20 : decode cX2_partFrom 20 = .ok (.getfield 19, 3) := by decide +kernel
theorem dX2_partFrom_23 : decode cX2_partFrom 23 = .ok (.iload_n 1, 1) := by decide +kernel
theorem dX2_partFrom_24 : decode cX2_partFrom 24 = .ok (.aaload, 1) := by decide +kernel
theorem dX2_partFrom_25 : decode cX2_partFrom 25 = .ok (.invokevirtual 62, 3) := by decide +kernel
theorem dX2_partFrom_28 : decode cX2_partFrom 28 = .ok (.ifCond .eq 17, 3) := by decide +kernel
theorem dX2_partFrom_31 : decode cX2_partFrom 31 = .ok (.aload_n 0, 1) := by decide +kernel
theorem dX2_partFrom_32 : decode cX2_partFrom 32 = .ok (.aload_n 0, 1) := by decide +kernel
theorem dX2_partFrom_33 : decode cX2_partFrom 33 = .ok (.getfield 19, 3) := by decide +kernel
theorem dX2_partFrom_36 : decode cX2_partFrom 36 = .ok (.iload_n 1, 1) := by decide +kernel
theorem dX2_partFrom_37 : decode cX2_partFrom 37 = .ok (.aaload, 1) := by decide +kernel
theorem dX2_partFrom_38 : decode cX2_partFrom 38 = .ok (.iload_n 2, 1) := by decide +kernel
theorem dX2_partFrom_39 : decode cX2_partFrom 39 = .ok (.invokevirtual 193, 3) := by decide +kernel
theorem dX2_partFrom_42 : decode cX2_partFrom 42 = .ok (.goto 11, 3) := by decide +kernel
theorem dX2_partFrom_45 : decode cX2_partFrom 45 = .ok (.aload_n 0, 1) := by decide +kernel
theorem dX2_partFrom_46 : decode cX2_partFrom 46 = .ok (.iload_n 1, 1) := by decide +kernel
theorem dX2_partFrom_47 : decode cX2_partFrom 47 = .ok (.iconst 1, 1) := by decide +kernel
theorem dX2_partFrom_48 : decode cX2_partFrom 48 = .ok (.iadd, 1) := by decide +kernel
theorem dX2_partFrom_49 : decode cX2_partFrom 49 = .ok (.iload_n 2, 1) := by decide +kernel
theorem dX2_partFrom_50 : decode cX2_partFrom 50 = .ok (.invokevirtual 187, 3) := by decide +kernel
theorem dX2_partFrom_53 : decode cX2_partFrom 53 = .ok (.return_, 1) := by decide +kernel
theorem dX2_tryEach_0 : decode cX2_tryEach 0 = .ok (.aload_n 0, 1) := by decide +kernel
theorem dX2_tryEach_1 : decode cX2_tryEach 1 = .ok (.getfield 11, 3) := by decide +kernel
theorem dX2_tryEach_4 : decode cX2_tryEach 4 = .ok (.astore_n 3, 1) := by decide +kernel
theorem dX2_tryEach_5 : decode cX2_tryEach 5 = .ok (.aload_n 3, 1) := by decide +kernel
theorem dX2_tryEach_6 : decode cX2_tryEach 6 = .ok (.arraylength, 1) := by decide +kernel
theorem dX2_tryEach_7 : decode cX2_tryEach 7 = .ok (.istore 4, 2) := by decide +kernel
theorem dX2_tryEach_9 : decode cX2_tryEach 9 = .ok (.iconst 0, 1) := by decide +kernel
theorem dX2_tryEach_10 : decode cX2_tryEach 10 = .ok (.istore 5, 2) := by decide +kernel
theorem dX2_tryEach_12 : decode cX2_tryEach 12 = .ok (.iload 5, 2) := by decide +kernel
theorem dX2_tryEach_14 : decode cX2_tryEach 14 = .ok (.iload 4, 2) := by decide +kernel
theorem dX2_tryEach_16 : decode cX2_tryEach 16 = .ok (.if_icmp .ge 117, 3) := by decide +kernel
theorem dX2_tryEach_19 : decode cX2_tryEach 19 = .ok (.aload_n 3, 1) := by decide +kernel
theorem dX2_tryEach_20 : decode cX2_tryEach 20 = .ok (.iload 5, 2) := by decide +kernel
theorem dX2_tryEach_22 : decode cX2_tryEach 22 = .ok (.aaload, 1) := by decide +kernel
theorem dX2_tryEach_23 : decode cX2_tryEach 23 = .ok (.astore 6, 2) := by decide +kernel
theorem dX2_tryEach_25 : decode cX2_tryEach 25 = .ok (.aload 6, 2) := by decide +kernel
theorem dX2_tryEach_27 : decode cX2_tryEach 27 = .ok (.getfield 178, 3) := by decide +kernel
theorem dX2_tryEach_30 : decode cX2_tryEach 30 = .ok (.aload_n 1, 1) := by decide +kernel
theorem dX2_tryEach_31 : decode cX2_tryEach 31 = .ok (.getfield 175, 3) := by decide +kernel
theorem dX2_tryEach_34 : decode cX2_tryEach 34 = .ok (.iadd, 1) := by decide +kernel
theorem dX2_tryEach_35 : decode cX2_tryEach 35 = .ok (.istore 7, 2) := by decide +kernel
theorem dX2_tryEach_37 : decode cX2_tryEach 37 = .ok (.aload 6, 2) := by decide +kernel
theorem dX2_tryEach_39 : decode cX2_tryEach 39 = .ok (.invokevirtual 54, 3) := by decide +kernel
theorem dX2_tryEach_42 : decode cX2_tryEach 42 = .ok (.ifCond .eq 85, 3) := by decide +kernel
theorem dX2_tryEach_45 : decode cX2_tryEach 45 = .ok (.iload 7, 2) := by decide +kernel
theorem dX2_tryEach_47 : decode cX2_tryEach 47 = .ok (.aload 6, 2) := by decide +kernel
theorem dX2_tryEach_49 : decode cX2_tryEach 49 = .ok (.getfield 197, 3) := by decide +kernel
theorem dX2_tryEach_52 : decode cX2_tryEach 52 = .ok (.if_icmp .gt 75, 3) := by decide +kernel
theorem dX2_tryEach_55 : decode cX2_tryEach 55 = .ok (.iload_n 2, 1) := by decide +kernel
theorem dX2_tryEach_56 : decode cX2_tryEach 56 = .ok (.iload 7, 2) := by decide +kernel
theorem dX2_tryEach_58 : decode cX2_tryEach 58 = .ok (.invokestatic 200, 3) := by decide +kernel
theorem dX2_tryEach_61 : decode cX2_tryEach 61 = .ok (.aload_n 0, 1) := by decide +kernel
theorem dX2_tryEach_62 : decode cX2_tryEach 62 = .ok (.getfield 184, 3) := by decide +kernel
theorem dX2_tryEach_65 : decode cX2_tryEach 65 = .ok (.if_icmp .lt 6, 3) := by decide +kernel
theorem dX2_tryEach_68 : decode cX2_tryEach 68 = .ok (.goto 59, 3) := by decide +kernel
theorem dX2_tryEach_71 : decode cX2_tryEach 71 = .ok (.aload 6, 2) := by decide +kernel
theorem dX2_tryEach_73 : decode cX2_tryEach 73 = .ok (.iload 7, 2) := by decide +kernel
theorem dX2_tryEach_75 : decode cX2_tryEach 75 = .ok (.putfield 178, 3) := by decide +kernel
theorem dX2_tryEach_78 : decode cX2_tryEach 78 = .ok (.aload_n 1, 1) := by decide +kernel
theorem dX2_tryEach_79 : decode cX2_tryEach 79 = .ok (.aload 6, 2) := by decide +kernel
theorem dX2_tryEach_81 : decode cX2_tryEach 81 = .ok (.getfield 169, 3) := by decide +kernel
theorem dX2_tryEach_84 : decode cX2_tryEach 84 = .ok (.putfield 206, 3) := by decide +kernel
theorem dX2_tryEach_87 : decode cX2_tryEach 87 = .ok (.aload_n 0, 1) := by decide +kernel
theorem dX2_tryEach_88 : decode cX2_tryEach 88 = .ok (.aload_n 1, 1) := by decide +kernel
theorem dX2_tryEach_89 : decode cX2_tryEach 89 = .ok (.getfield 132, 3) := by decide +kernel
theorem dX2_tryEach_92 : decode cX2_tryEach 92 = .ok (.iconst 1, 1) := by decide +kernel
theorem dX2_tryEach_93 : decode cX2_tryEach 93 = .ok (.iadd, 1) := by decide +kernel
theorem dX2_tryEach_94 : decode cX2_tryEach 94 = .ok (.iload_n 2, 1) := by decide +kernel
theorem dX2_tryEach_95 : decode cX2_tryEach 95 = .ok (.iload 7, 2) := by decide +kernel
theorem dX2_tryEach_97 : decode cX2_tryEach 97 = .ok (.invokestatic 200, 3) := by decide +kernel
theorem dX2_tryEach_100 : decode cX2_tryEach 100 = .ok (.invokevirtual 187, 3) := by decide +kernel
theorem dX2_tryEach_103 : decode cX2_tryEach 103 = .ok (.aload 6, 2) := by decide +kernel
theorem dX2_tryEach_105 : decode cX2_tryEach 105 = .ok (.iload 7, 2) := by decide +kernel
theorem dX2_tryEach_107 : decode cX2_tryEach 107 = .ok (.aload_n 1, 1) := by decide +kernel
theorem dX2_tryEach_108 : decode cX2_tryEach 108 = .ok (.getfield 175, 3) := by decide +kernel
theorem dX2_tryEach_111 : decode cX2_tryEach 111 = .ok (.isub, 1) := by decide +kernel
theorem dX2_tryEach_112 : decode cX2_tryEach 112 = .ok (.putfield 178, 3) := by decide +kernel
theorem dX2_tryEach_115 : decode cX2_tryEach 115 = .ok (.aload_n 0, 1) := by decide +kernel
theorem dX2_tryEach_116 : decode cX2_tryEach 116 = .ok (.getfield 184, 3) := by decide +kernel
theorem dX2_tryEach_119 : decode cX2_tryEach 119 = .ok (.aload_n 0, 1) := by decide +kernel
theorem dX2_tryEach_120 : decode cX2_tryEach 120 = .ok (.getfield 181, 3) := by decide +kernel
theorem dX2_tryEach_123 : decode cX2_tryEach 123 = .ok (.if_icmp .gt 4, 3) := by decide +kernel
theorem dX2_tryEach_126 : decode cX2_tryEach 126 = .ok (.return_, 1) := by decide +kernel
theorem dX2_tryEach_127 : decode cX2_tryEach 127 = .ok (.iinc 5 1, 3) := by decide +kernel
theorem dX2_tryEach_130 : decode cX2_tryEach 130 = .ok (.goto (-118), 3) := by decide +kernel
theorem dX2_tryEach_133 : decode cX2_tryEach 133 = .ok (.return_, 1) := by decide +kernel
theorem dX2_notePart_0 : decode cX2_notePart 0 = .ok (.aload_n 0, 1) := by decide +kernel
