/-! decode rows -/
theorem dX1_init_0 : decode cX1_init 0 = .ok (.aload_n 0, 1) := by decide +kernel
theorem dX1_init_1 : decode cX1_init 1 = .ok (.invokespecial 3, 3) := by decide +kernel
theorem dX1_init_4 : decode cX1_init 4 = .ok (.aload_n 0, 1) := by decide +kernel
theorem dX1_init_5 : decode cX1_init 5 = .ok (.iload_n 1, 1) := by decide +kernel
theorem dX1_init_6 : decode cX1_init 6 = .ok (.putfield 9, 3) := by decide +kernel
theorem dX1_init_9 : decode cX1_init 9 = .ok (.return_, 1) := by decide +kernel
theorem dX1_become_0 : decode cX1_become 0 = .ok (.aload_n 0, 1) := by decide +kernel
theorem dX1_become_1 : decode cX1_become 1 = .ok (.aload_n 1, 1) := by decide +kernel
theorem dX1_become_2 : decode cX1_become 2 = .ok (.getfield 15, 3) := by decide +kernel
theorem dX1_become_5 : decode cX1_become 5 = .ok (.putfield 15, 3) := by decide +kernel
theorem dX1_become_8 : decode cX1_become 8 = .ok (.aload_n 0, 1) := by decide +kernel
theorem dX1_become_9 : decode cX1_become 9 = .ok (.aload_n 1, 1) := by decide +kernel
theorem dX1_become_10 : decode cX1_become 10 = .ok (.getfield 19, 3) := by decide +kernel
theorem dX1_become_13 : decode cX1_become 13 = .ok (.putfield 19, 3) := by decide +kernel
theorem dX1_become_16 : decode cX1_become 16 = .ok (.aload_n 0, 1) := by decide +kernel
theorem dX1_become_17 : decode cX1_become 17 = .ok (.aload_n 1, 1) := by decide +kernel
theorem dX1_become_18 : decode cX1_become 18 = .ok (.getfield 22, 3) := by decide +kernel
theorem dX1_become_21 : decode cX1_become 21 = .ok (.putfield 22, 3) := by decide +kernel
theorem dX1_become_24 : decode cX1_become 24 = .ok (.aload_n 0, 1) := by decide +kernel
theorem dX1_become_25 : decode cX1_become 25 = .ok (.aload_n 1, 1) := by decide +kernel
theorem dX1_become_26 : decode cX1_become 26 = .ok (.getfield 25, 3) := by decide +kernel
theorem dX1_become_29 : decode cX1_become 29 = .ok (.putfield 25, 3) := by decide +kernel
theorem dX1_become_32 : decode cX1_become 32 = .ok (.aload_n 0, 1) := by decide +kernel
theorem dX1_become_33 : decode cX1_become 33 = .ok (.aload_n 1, 1) := by decide +kernel
theorem dX1_become_34 : decode cX1_become 34 = .ok (.getfield 28, 3) := by decide +kernel
theorem dX1_become_37 : decode cX1_become 37 = .ok (.putfield 28, 3) := by decide +kernel
theorem dX1_become_40 : decode cX1_become 40 = .ok (.aload_n 0, 1) := by decide +kernel
theorem dX1_become_41 : decode cX1_become 41 = .ok (.aload_n 1, 1) := by decide +kernel
theorem dX1_become_42 : decode cX1_become 42 = .ok (.getfield 31, 3) := by decide +kernel
theorem dX1_become_45 : decode cX1_become 45 = .ok (.putfield 31, 3) := by decide +kernel
theorem dX1_become_48 : decode cX1_become 48 = .ok (.aload_n 0, 1) := by decide +kernel
theorem dX1_become_49 : decode cX1_become 49 = .ok (.aload_n 1, 1) := by decide +kernel
theorem dX1_become_50 : decode cX1_become 50 = .ok (.getfield 34, 3) := by decide +kernel
theorem dX1_become_53 : decode cX1_become 53 = .ok (.putfield 34, 3) := by decide +kernel
theorem dX1_become_56 : decode cX1_become 56 = .ok (.aload_n 0, 1) := by decide +kernel
theorem dX1_become_57 : decode cX1_become 57 = .ok (.aload_n 1, 1) := by decide +kernel
theorem dX1_become_58 : decode cX1_become 58 = .ok (.getfield 37, 3) := by decide +kernel
theorem dX1_become_61 : decode cX1_become 61 = .ok (.putfield 37, 3) := by decide +kernel
theorem dX1_become_64 : decode cX1_become 64 = .ok (.return_, 1) := by decide +kernel
theorem dX1_arrive_0 : decode cX1_arrive 0 = .ok (.aload_n 0, 1) := by decide +kernel
theorem dX1_arrive_1 : decode cX1_arrive 1 = .ok (.iconst 1, 1) := by decide +kernel
theorem dX1_arrive_2 : decode cX1_arrive 2 = .ok (.putfield 15, 3) := by decide +kernel
theorem dX1_arrive_5 : decode cX1_arrive 5 = .ok (.aload_n 0, 1) := by decide +kernel
theorem dX1_arrive_6 : decode cX1_arrive 6 = .ok (.iconst 0, 1) := by decide +kernel
theorem dX1_arrive_7 : decode cX1_arrive 7 = .ok (.putfield 19, 3) := by decide +kernel
theorem dX1_arrive_10 : decode cX1_arrive 10 = .ok (.aload_n 0, 1) := by decide +kernel
theorem dX1_arrive_11 : decode cX1_arrive 11 = .ok (.iload_n 1, 1) := by decide +kernel
theorem dX1_arrive_12 : decode cX1_arrive 12 = .ok (.putfield 22, 3) := by decide +kernel
theorem dX1_arrive_15 : decode cX1_arrive 15 = .ok (.aload_n 0, 1) := by decide +kernel
theorem dX1_arrive_16 : decode cX1_arrive 16 = .ok (.iload_n 2, 1) := by decide +kernel
theorem dX1_arrive_17 : decode cX1_arrive 17 = .ok (.putfield 25, 3) := by decide +kernel
theorem dX1_arrive_20 : decode cX1_arrive 20 = .ok (.aload_n 0, 1) := by decide +kernel
theorem dX1_arrive_21 : decode cX1_arrive 21 = .ok (.iload_n 3, 1) := by decide +kernel
theorem dX1_arrive_22 : decode cX1_arrive 22 = .ok (.putfield 28, 3) := by decide +kernel
theorem dX1_arrive_25 : decode cX1_arrive 25 = .ok (.aload_n 0, 1) := by decide +kernel
theorem dX1_arrive_26 : decode cX1_arrive 26 = .ok (.iload 4, 2) := by decide +kernel
theorem dX1_arrive_28 : decode cX1_arrive 28 = .ok (.putfield 31, 3) := by decide +kernel
theorem dX1_arrive_31 : decode cX1_arrive 31 = .ok (.aload_n 0, 1) := by decide +kernel
theorem dX1_arrive_32 : decode cX1_arrive 32 = .ok (.iconst 0, 1) := by decide +kernel
theorem dX1_arrive_33 : decode cX1_arrive 33 = .ok (.putfield 34, 3) := by decide +kernel
theorem dX1_arrive_36 : decode cX1_arrive 36 = .ok (.aload_n 0, 1) := by decide +kernel
theorem dX1_arrive_37 : decode cX1_arrive 37 = .ok (.iconst 0, 1) := by decide +kernel
theorem dX1_arrive_38 : decode cX1_arrive 38 = .ok (.putfield 37, 3) := by decide +kernel
theorem dX1_arrive_41 : decode cX1_arrive 41 = .ok (.return_, 1) := by decide +kernel
theorem dX1_isOpen_0 : decode cX1_isOpen 0 = .ok (.aload_n 0, 1) := by decide +kernel
theorem dX1_isOpen_1 : decode cX1_isOpen 1 = .ok (.getfield 15, 3) := by decide +kernel
theorem dX1_isOpen_4 : decode cX1_isOpen 4 = .ok (.ifCond .eq 14, 3) := by decide +kernel
theorem dX1_isOpen_7 : decode cX1_isOpen 7 = .ok (.aload_n 0, 1) := by decide +kernel
theorem dX1_isOpen_8 : decode cX1_isOpen 8 = .ok (.getfield 19, 3) := by decide +kernel
theorem dX1_isOpen_11 : decode cX1_isOpen 11 = .ok (.ifCond .ne 7, 3) := by decide +kernel
theorem dX1_isOpen_14 : decode cX1_isOpen 14 = .ok (.iconst 1, 1) := by decide +kernel
theorem dX1_isOpen_15 : decode cX1_isOpen 15 = .ok (.goto 4, 3) := by decide +kernel
theorem dX1_isOpen_18 : decode cX1_isOpen 18 = .ok (.iconst 0, 1) := by decide +kernel
theorem dX1_isOpen_19 : decode cX1_isOpen 19 = .ok (.ireturn, 1) := by decide +kernel
theorem dX1_faceNow_0 : decode cX1_faceNow 0 = .ok (.iconst 0, 1) := by decide +kernel
theorem dX1_faceNow_1 : decode cX1_faceNow 1 = .ok (.bipush 30, 2) := by decide +kernel
theorem dX1_faceNow_3 : decode cX1_faceNow 3 = .ok (.aload_n 0, 1) := by decide +kernel
theorem dX1_faceNow_4 : decode cX1_faceNow 4 = .ok (.invokevirtual 40, 3) := by decide +kernel
theorem dX1_faceNow_7 : decode cX1_faceNow 7 = .ok (.invokestatic 44, 3) := by decide +kernel
theorem dX1_faceNow_10 : decode cX1_faceNow 10 = .ok (.invokestatic 50, 3) := by decide +kernel
theorem dX1_faceNow_13 : decode cX1_faceNow 13 = .ok (.ireturn, 1) := by decide +kernel
theorem dX1_unboundedFace_0 : decode cX1_unboundedFace 0 = .ok (.aload_n 0, 1) := by decide +kernel
theorem dX1_unboundedFace_1 : decode cX1_unboundedFace 1 = .ok (.getfield 31, 3) := by decide +kernel
theorem dX1_unboundedFace_4 : decode cX1_unboundedFace 4 = .ok (.aload_n 0, 1) := by decide +kernel
theorem dX1_unboundedFace_5 : decode cX1_unboundedFace 5 = .ok (.getfield 34, 3) := by decide +kernel
theorem dX1_unboundedFace_8 : decode cX1_unboundedFace 8 = .ok (.bipush 10, 2) := by decide +kernel
theorem dX1_unboundedFace_10 : decode cX1_unboundedFace 10 = .ok (.idiv, 1) := by decide +kernel
theorem dX1_unboundedFace_11 : decode cX1_unboundedFace 11 = .ok (.isub, 1) := by decide +kernel
theorem dX1_unboundedFace_12 : decode cX1_unboundedFace 12 = .ok (.istore_n 1, 1) := by decide +kernel
theorem dX1_unboundedFace_13 : decode cX1_unboundedFace 13 = .ok (.iload_n 1, 1) := by decide +kernel
theorem dX1_unboundedFace_14 : decode cX1_unboundedFace 14 = .ok (.iconst 2, 1) := by decide +kernel
theorem dX1_unboundedFace_15 : decode cX1_unboundedFace 15 = .ok (.idiv, 1) := by decide +kernel
theorem dX1_unboundedFace_16 : decode cX1_unboundedFace 16 = .ok (.istore_n 2, 1) := by decide +kernel
theorem dX1_unboundedFace_17 : decode cX1_unboundedFace 17 = .ok (.iload_n 1, 1) := by decide +kernel
theorem dX1_unboundedFace_18 : decode cX1_unboundedFace 18 = .ok (.aload_n 0, 1) := by decide +kernel
theorem dX1_unboundedFace_19 : decode cX1_unboundedFace 19 = .ok (.getfield 37, 3) := by decide +kernel
theorem dX1_unboundedFace_22 : decode cX1_unboundedFace 22 = .ok (.iadd, 1) := by decide +kernel
theorem dX1_unboundedFace_23 : decode cX1_unboundedFace 23 = .ok (.istore_n 3, 1) := by decide +kernel
theorem dX1_unboundedFace_24 : decode cX1_unboundedFace 24 = .ok (.aload_n 0, 1) := by decide +kernel
theorem dX1_unboundedFace_25 : decode cX1_unboundedFace 25 = .ok (.getfield 22, 3) := by decide +kernel
theorem dX1_unboundedFace_28 : decode cX1_unboundedFace 28 = .ok (.tableswitch 87 1 6 #[40, 52, 54, 70, 72, 61], 40) := by decide +kernel
theorem dX1_unboundedFace_68 : decode cX1_unboundedFace 68 = .ok (.aload_n 0, 1) := by decide +kernel
theorem dX1_unboundedFace_69 : decode cX1_unboundedFace 69 = .ok (.getfield 31, 3) := by decide +kernel
theorem dX1_unboundedFace_72 : decode cX1_unboundedFace 72 = .ok (.aload_n 0, 1) := by decide +kernel
theorem dX1_unboundedFace_73 : decode cX1_unboundedFace 73 = .ok (.getfield 34, 3) := by decide +kernel
theorem dX1_unboundedFace_76 : decode cX1_unboundedFace 76 = .ok (.iconst 5, 1) := by decide +kernel
theorem dX1_unboundedFace_77 : decode cX1_unboundedFace 77 = .ok (.idiv, 1) := by decide +kernel
theorem dX1_unboundedFace_78 : decode cX1_unboundedFace 78 = .ok (.isub, 1) := by decide +kernel
theorem dX1_unboundedFace_79 : decode cX1_unboundedFace 79 = .ok (.ireturn, 1) := by decide +kernel
theorem dX1_unboundedFace_80 : decode cX1_unboundedFace 80 = .ok (.iload_n 2, 1) := by decide +kernel
theorem dX1_unboundedFace_81 : decode cX1_unboundedFace 81 = .ok (.ireturn, 1) := by decide +kernel
theorem dX1_unboundedFace_82 : decode cX1_unboundedFace 82 = .ok (.iload_n 2, 1) := by decide +kernel
theorem dX1_unboundedFace_83 : decode cX1_unboundedFace 83 = .ok (.aload_n 0, 1) := by decide +kernel
theorem dX1_unboundedFace_84 : decode cX1_unboundedFace 84 = .ok (.getfield 25, 3) := by decide +kernel
theorem dX1_unboundedFace_87 : decode cX1_unboundedFace 87 = .ok (.iadd, 1) := by decide +kernel
theorem dX1_unboundedFace_88 : decode cX1_unboundedFace 88 = .ok (.ireturn, 1) := by decide +kernel
theorem dX1_unboundedFace_89 : decode cX1_unboundedFace 89 = .ok (.iload_n 2, 1) := by decide +kernel
theorem dX1_unboundedFace_90 : decode cX1_unboundedFace 90 = .ok (.aload_n 0, 1) := by decide +kernel
theorem dX1_unboundedFace_91 : decode cX1_unboundedFace 91 = .ok (.getfield 25, 3) := by decide +kernel
theorem dX1_unboundedFace_94 : decode cX1_unboundedFace 94 = .ok (.iadd, 1) := by decide +kernel
theorem dX1_unboundedFace_95 : decode cX1_unboundedFace 95 = .ok (.iconst 3, 1) := by decide +kernel
theorem dX1_unboundedFace_96 : decode cX1_unboundedFace 96 = .ok (.isub, 1) := by decide +kernel
theorem dX1_unboundedFace_97 : decode cX1_unboundedFace 97 = .ok (.ireturn, 1) := by decide +kernel
theorem dX1_unboundedFace_98 : decode cX1_unboundedFace 98 = .ok (.iload_n 3, 1) := by decide +kernel
theorem dX1_unboundedFace_99 : decode cX1_unboundedFace 99 = .ok (.ireturn, 1) := by decide +kernel
theorem dX1_unboundedFace_100 : decode cX1_unboundedFace 100 = .ok (.aload_n 0, 1) := by decide +kernel
theorem dX1_unboundedFace_101 : decode cX1_unboundedFace 101 = .ok (.getfield 28, 3) := by decide +kernel
theorem dX1_unboundedFace_104 : decode cX1_unboundedFace 104 = .ok (.ifCond .ne 9, 3) := by decide +kernel
theorem dX1_unboundedFace_107 : decode cX1_unboundedFace 107 = .ok (.iload_n 3, 1) := by decide +kernel
theorem dX1_unboundedFace_108 : decode cX1_unboundedFace 108 = .ok (.iconst 1, 1) := by decide +kernel
theorem dX1_unboundedFace_109 : decode cX1_unboundedFace 109 = .ok (.iadd, 1) := by decide +kernel
theorem dX1_unboundedFace_110 : decode cX1_unboundedFace 110 = .ok (.goto 4, 3) := by decide +kernel
theorem dX1_unboundedFace_113 : decode cX1_unboundedFace 113 = .ok (.iload_n 3, 1) := by decide +kernel
theorem dX1_unboundedFace_114 : decode cX1_unboundedFace 114 = .ok (.ireturn, 1) := by decide +kernel
theorem dX1_unboundedFace_115 : decode cX1_unboundedFace 115 = .ok (.iload_n 1, 1) := by decide +kernel
theorem dX1_unboundedFace_116 : decode cX1_unboundedFace 116 = .ok (.ireturn, 1) := by decide +kernel
theorem dX1_saysAs_0 : decode cX1_saysAs 0 = .ok (.iload_n 1, 1) := by decide +kernel
theorem dX1_saysAs_1 : decode cX1_saysAs 1 = .ok (.tableswitch 59 0 5 #[39, 44, 59, 59, 49, 54], 39) := by decide +kernel
theorem dX1_saysAs_40 : decode cX1_saysAs 40 = .ok (.aload_n 0, 1) := by decide +kernel
theorem dX1_saysAs_41 : decode cX1_saysAs 41 = .ok (.invokevirtual 53, 3) := by decide +kernel
theorem dX1_saysAs_44 : decode cX1_saysAs 44 = .ok (.ireturn, 1) := by decide +kernel
theorem dX1_saysAs_45 : decode cX1_saysAs 45 = .ok (.aload_n 0, 1) := by decide +kernel
theorem dX1_saysAs_46 : decode cX1_saysAs 46 = .ok (.getfield 34, 3) := by decide +kernel
theorem dX1_saysAs_49 : decode cX1_saysAs 49 = .ok (.ireturn, 1) := by decide +kernel
theorem dX1_saysAs_50 : decode cX1_saysAs 50 = .ok (.aload_n 0, 1) := by decide +kernel
theorem dX1_saysAs_51 : decode cX1_saysAs 51 = .ok (.getfield 37, 3) := by decide +kernel
theorem dX1_saysAs_54 : decode cX1_saysAs 54 = .ok (.ireturn, 1) := by decide +kernel
theorem dX1_saysAs_55 : decode cX1_saysAs 55 = .ok (.aload_n 0, 1) := by decide +kernel
theorem dX1_saysAs_56 : decode cX1_saysAs 56 = .ok (.getfield 37, 3) := by decide +kernel
theorem dX1_saysAs_59 : decode cX1_saysAs 59 = .ok (.ireturn, 1) := by decide +kernel
theorem dX1_saysAs_60 : decode cX1_saysAs 60 = .ok (.aload_n 0, 1) := by decide +kernel
theorem dX1_saysAs_61 : decode cX1_saysAs 61 = .ok (.getfield 25, 3) := by decide +kernel
theorem dX1_saysAs_64 : decode cX1_saysAs 64 = .ok (.ireturn, 1) := by decide +kernel
theorem dX1_becomes_0 : decode cX1_becomes 0 = .ok (.iload_n 1, 1) := by decide +kernel
theorem dX1_becomes_1 : decode cX1_becomes 1 = .ok (.tableswitch 80 0 2 #[27, 56, 68], 27) := by decide +kernel
theorem dX1_becomes_28 : decode cX1_becomes 28 = .ok (.aload_n 0, 1) := by decide +kernel
theorem dX1_becomes_29 : decode cX1_becomes 29 = .ok (.getfield 19, 3) := by decide +kernel
theorem dX1_becomes_32 : decode cX1_becomes 32 = .ok (.ifCond .eq 7, 3) := by decide +kernel
theorem dX1_becomes_35 : decode cX1_becomes 35 = .ok (.iconst 1, 1) := by decide +kernel
theorem dX1_becomes_36 : decode cX1_becomes 36 = .ok (.goto 4, 3) := by decide +kernel
theorem dX1_becomes_39 : decode cX1_becomes 39 = .ok (.iconst 0, 1) := by decide +kernel
theorem dX1_becomes_40 : decode cX1_becomes 40 = .ok (.istore_n 3, 1) := by decide +kernel
theorem dX1_becomes_41 : decode cX1_becomes 41 = .ok (.aload_n 0, 1) := by decide +kernel
theorem dX1_becomes_42 : decode cX1_becomes 42 = .ok (.iload_n 2, 1) := by decide +kernel
theorem dX1_becomes_43 : decode cX1_becomes 43 = .ok (.iconst 1, 1) := by decide +kernel
theorem dX1_becomes_44 : decode cX1_becomes 44 = .ok (.if_icmp .ne 7, 3) := by decide +kernel
theorem dX1_becomes_47 : decode cX1_becomes 47 = .ok (.iconst 1, 1) := by decide +kernel
theorem dX1_becomes_48 : decode cX1_becomes 48 = .ok (.goto 4, 3) := by decide +kernel
theorem dX1_becomes_51 : decode cX1_becomes 51 = .ok (.iconst 0, 1) := by decide +kernel
theorem dX1_becomes_52 : decode cX1_becomes 52 = .ok (.putfield 19, 3) := by decide +kernel
theorem dX1_becomes_55 : decode cX1_becomes 55 = .ok (.iload_n 3, 1) := by decide +kernel
theorem dX1_becomes_56 : decode cX1_becomes 56 = .ok (.ireturn, 1) := by decide +kernel
theorem dX1_becomes_57 : decode cX1_becomes 57 = .ok (.aload_n 0, 1) := by decide +kernel
theorem dX1_becomes_58 : decode cX1_becomes 58 = .ok (.getfield 34, 3) := by decide +kernel
theorem dX1_becomes_61 : decode cX1_becomes 61 = .ok (.istore_n 3, 1) := by decide +kernel
theorem dX1_becomes_62 : decode cX1_becomes 62 = .ok (.aload_n 0, 1) := by decide +kernel
theorem dX1_becomes_63 : decode cX1_becomes 63 = .ok (.iload_n 2, 1) := by decide +kernel
theorem dX1_becomes_64 : decode cX1_becomes 64 = .ok (.putfield 34, 3) := by decide +kernel
theorem dX1_becomes_67 : decode cX1_becomes 67 = .ok (.iload_n 3, 1) := by decide +kernel
theorem dX1_becomes_68 : decode cX1_becomes 68 = .ok (.ireturn, 1) := by decide +kernel
theorem dX1_becomes_69 : decode cX1_becomes 69 = .ok (.aload_n 0, 1) := by decide +kernel
theorem dX1_becomes_70 : decode cX1_becomes 70 = .ok (.getfield 31, 3) := by decide +kernel
theorem dX1_becomes_73 : decode cX1_becomes 73 = .ok (.istore_n 3, 1) := by decide +kernel
theorem dX1_becomes_74 : decode cX1_becomes 74 = .ok (.aload_n 0, 1) := by decide +kernel
theorem dX1_becomes_75 : decode cX1_becomes 75 = .ok (.iload_n 2, 1) := by decide +kernel
theorem dX1_becomes_76 : decode cX1_becomes 76 = .ok (.putfield 31, 3) := by decide +kernel
theorem dX1_becomes_79 : decode cX1_becomes 79 = .ok (.iload_n 3, 1) := by decide +kernel
theorem dX1_becomes_80 : decode cX1_becomes 80 = .ok (.ireturn, 1) := by decide +kernel
theorem dX1_becomes_81 : decode cX1_becomes 81 = .ok (.aload_n 0, 1) := by decide +kernel
theorem dX1_becomes_82 : decode cX1_becomes 82 = .ok (.getfield 28, 3) := by decide +kernel
theorem dX1_becomes_85 : decode cX1_becomes 85 = .ok (.istore_n 3, 1) := by decide +kernel
theorem dX1_becomes_86 : decode cX1_becomes 86 = .ok (.aload_n 0, 1) := by decide +kernel
theorem dX1_becomes_87 : decode cX1_becomes 87 = .ok (.iload_n 2, 1) := by decide +kernel
theorem dX1_becomes_88 : decode cX1_becomes 88 = .ok (.putfield 28, 3) := by decide +kernel
theorem dX1_becomes_91 : decode cX1_becomes 91 = .ok (.iload_n 3, 1) := by decide +kernel
theorem dX1_becomes_92 : decode cX1_becomes 92 = .ok (.ireturn, 1) := by decide +kernel
theorem dX1_beginMorning_0 : decode cX1_beginMorning 0 = .ok (.aload_n 0, 1) := by decide +kernel
theorem dX1_beginMorning_1 : decode cX1_beginMorning 1 = .ok (.aload_n 0, 1) := by decide +kernel
theorem dX1_beginMorning_2 : decode cX1_beginMorning 2 = .ok (.invokevirtual 53, 3) := by decide +kernel
theorem dX1_beginMorning_5 : decode cX1_beginMorning 5 = .ok (.putfield 56, 3) := by decide +kernel
theorem dX1_beginMorning_8 : decode cX1_beginMorning 8 = .ok (.aload_n 0, 1) := by decide +kernel
theorem dX1_beginMorning_9 : decode cX1_beginMorning 9 = .ok (.iconst 0, 1) := by decide +kernel
theorem dX1_beginMorning_10 : decode cX1_beginMorning 10 = .ok (.putfield 59, 3) := by decide +kernel
theorem dX1_beginMorning_13 : decode cX1_beginMorning 13 = .ok (.aload_n 0, 1) := by decide +kernel
theorem dX1_beginMorning_14 : decode cX1_beginMorning 14 = .ok (.iconst 0, 1) := by decide +kernel
theorem dX1_beginMorning_15 : decode cX1_beginMorning 15 = .ok (.putfield 62, 3) := by decide +kernel
theorem dX1_beginMorning_18 : decode cX1_beginMorning 18 = .ok (.aload_n 0, 1) := by decide +kernel
theorem dX1_beginMorning_19 : decode cX1_beginMorning 19 = .ok (.iconst 0, 1) := by decide +kernel
theorem dX1_beginMorning_20 : decode cX1_beginMorning 20 = .ok (.putfield 65, 3) := by decide +kernel
theorem dX1_beginMorning_23 : decode cX1_beginMorning 23 = .ok (.aload_n 0, 1) := by decide +kernel
theorem dX1_beginMorning_24 : decode cX1_beginMorning 24 = .ok (.iconst 0, 1) := by decide +kernel
theorem dX1_beginMorning_25 : decode cX1_beginMorning 25 = .ok (.putfield 68, 3) := by decide +kernel
theorem dX1_beginMorning_28 : decode cX1_beginMorning 28 = .ok (.return_, 1) := by decide +kernel
theorem dX1_receive_0 : decode cX1_receive 0 = .ok (.aload_n 1, 1) := by decide +kernel
theorem dX1_receive_1 : decode cX1_receive 1 = .ok (.aload_n 0, 1) := by decide +kernel
theorem dX1_receive_2 : decode cX1_receive 2 = .ok (.getfield 9, 3) := by decide +kernel
theorem dX1_receive_5 : decode cX1_receive 5 = .ok (.putfield 71, 3) := by decide +kernel
theorem dX1_receive_8 : decode cX1_receive 8 = .ok (.aload_n 0, 1) := by decide +kernel
theorem dX1_receive_9 : decode cX1_receive 9 = .ok (.dup, 1) := by decide +kernel
theorem dX1_receive_10 : decode cX1_receive 10 = .ok (.getfield 59, 3) := by decide +kernel
theorem dX1_receive_13 : decode cX1_receive 13 = .ok (.iconst 1, 1) := by decide +kernel
theorem dX1_receive_14 : decode cX1_receive 14 = .ok (.aload_n 1, 1) := by decide +kernel
theorem dX1_receive_15 : decode cX1_receive 15 = .ok (.getfield 76, 3) := by decide +kernel
theorem dX1_receive_18 : decode cX1_receive 18 = .ok (.ishl, 1) := by decide +kernel
theorem dX1_receive_19 : decode cX1_receive 19 = .ok (.ior, 1) := by decide +kernel
theorem dX1_receive_20 : decode cX1_receive 20 = .ok (.putfield 59, 3) := by decide +kernel
theorem dX1_receive_23 : decode cX1_receive 23 = .ok (.aload_n 0, 1) := by decide +kernel
theorem dX1_receive_24 : decode cX1_receive 24 = .ok (.dup, 1) := by decide +kernel
theorem dX1_receive_25 : decode cX1_receive 25 = .ok (.getfield 62, 3) := by decide +kernel
theorem dX1_receive_28 : decode cX1_receive 28 = .ok (.iconst 1, 1) := by decide +kernel
theorem dX1_receive_29 : decode cX1_receive 29 = .ok (.iadd, 1) := by decide +kernel
theorem dX1_receive_30 : decode cX1_receive 30 = .ok (.putfield 62, 3) := by decide +kernel
theorem dX1_receive_33 : decode cX1_receive 33 = .ok (.aload_n 1, 1) := by decide +kernel
theorem dX1_receive_34 : decode cX1_receive 34 = .ok (.aload_n 0, 1) := by decide +kernel
theorem dX1_receive_35 : decode cX1_receive 35 = .ok (.aload_n 1, 1) := by decide +kernel
theorem dX1_receive_36 : decode cX1_receive 36 = .ok (.getfield 77, 3) := by decide +kernel
theorem dX1_receive_39 : decode cX1_receive 39 = .ok (.invokevirtual 80, 3) := by decide +kernel
theorem dX1_receive_42 : decode cX1_receive 42 = .ok (.putfield 84, 3) := by decide +kernel
theorem dX1_receive_45 : decode cX1_receive 45 = .ok (.return_, 1) := by decide +kernel
theorem dX1_keeps_0 : decode cX1_keeps 0 = .ok (.aload_n 0, 1) := by decide +kernel
theorem dX1_keeps_1 : decode cX1_keeps 1 = .ok (.getfield 22, 3) := by decide +kernel
theorem dX1_keeps_4 : decode cX1_keeps 4 = .ok (.iconst 5, 1) := by decide +kernel
theorem dX1_keeps_5 : decode cX1_keeps 5 = .ok (.if_icmp .ne 15, 3) := by decide +kernel
theorem dX1_keeps_8 : decode cX1_keeps 8 = .ok (.iload_n 1, 1) := by decide +kernel
theorem dX1_keeps_9 : decode cX1_keeps 9 = .ok (.aload_n 0, 1) := by decide +kernel
theorem dX1_keeps_10 : decode cX1_keeps 10 = .ok (.getfield 25, 3) := by decide +kernel
theorem dX1_keeps_13 : decode cX1_keeps 13 = .ok (.if_icmp .gt 7, 3) := by decide +kernel
theorem dX1_keeps_16 : decode cX1_keeps 16 = .ok (.iconst 1, 1) := by decide +kernel
theorem dX1_keeps_17 : decode cX1_keeps 17 = .ok (.goto 4, 3) := by decide +kernel
theorem dX1_keeps_20 : decode cX1_keeps 20 = .ok (.iconst 0, 1) := by decide +kernel
theorem dX1_keeps_21 : decode cX1_keeps 21 = .ok (.istore_n 2, 1) := by decide +kernel
theorem dX1_keeps_22 : decode cX1_keeps 22 = .ok (.iload_n 2, 1) := by decide +kernel
theorem dX1_keeps_23 : decode cX1_keeps 23 = .ok (.ifCond .ne 18, 3) := by decide +kernel
theorem dX1_keeps_26 : decode cX1_keeps 26 = .ok (.aload_n 0, 1) := by decide +kernel
theorem dX1_keeps_27 : decode cX1_keeps 27 = .ok (.getfield 65, 3) := by decide +kernel
theorem dX1_keeps_30 : decode cX1_keeps 30 = .ok (.iload_n 1, 1) := by decide +kernel
theorem dX1_keeps_31 : decode cX1_keeps 31 = .ok (.iadd, 1) := by decide +kernel
theorem dX1_keeps_32 : decode cX1_keeps 32 = .ok (.aload_n 0, 1) := by decide +kernel
theorem dX1_keeps_33 : decode cX1_keeps 33 = .ok (.getfield 28, 3) := by decide +kernel
theorem dX1_keeps_36 : decode cX1_keeps 36 = .ok (.if_icmp .le 5, 3) := by decide +kernel
theorem dX1_keeps_39 : decode cX1_keeps 39 = .ok (.iconst 0, 1) := by decide +kernel
theorem dX1_keeps_40 : decode cX1_keeps 40 = .ok (.ireturn, 1) := by decide +kernel
theorem dX1_keeps_41 : decode cX1_keeps 41 = .ok (.iload_n 2, 1) := by decide +kernel
theorem dX1_keeps_42 : decode cX1_keeps 42 = .ok (.ifCond .ne 13, 3) := by decide +kernel
theorem dX1_keeps_45 : decode cX1_keeps 45 = .ok (.aload_n 0, 1) := by decide +kernel
theorem dX1_keeps_46 : decode cX1_keeps 46 = .ok (.dup, 1) := by decide +kernel
theorem dX1_keeps_47 : decode cX1_keeps 47 = .ok (.getfield 65, 3) := by decide +kernel
theorem dX1_keeps_50 : decode cX1_keeps 50 = .ok (.iload_n 1, 1) := by decide +kernel
theorem dX1_keeps_51 : decode cX1_keeps 51 = .ok (.iadd, 1) := by decide +kernel
theorem dX1_keeps_52 : decode cX1_keeps 52 = .ok (.putfield 65, 3) := by decide +kernel
theorem dX1_keeps_55 : decode cX1_keeps 55 = .ok (.aload_n 0, 1) := by decide +kernel
theorem dX1_keeps_56 : decode cX1_keeps 56 = .ok (.dup, 1) := by decide +kernel
theorem dX1_keeps_57 : decode cX1_keeps 57 = .ok (.getfield 68, 3) := by decide +kernel
theorem dX1_keeps_60 : decode cX1_keeps 60 = .ok (.iload_n 1, 1) := by decide +kernel
theorem dX1_keeps_61 : decode cX1_keeps 61 = .ok (.iadd, 1) := by decide +kernel
theorem dX1_keeps_62 : decode cX1_keeps 62 = .ok (.putfield 68, 3) := by decide +kernel
theorem dX1_keeps_65 : decode cX1_keeps 65 = .ok (.iconst 1, 1) := by decide +kernel
theorem dX1_keeps_66 : decode cX1_keeps 66 = .ok (.ireturn, 1) := by decide +kernel
theorem dX1_endMorning_0 : decode cX1_endMorning 0 = .ok (.aload_n 0, 1) := by decide +kernel
theorem dX1_endMorning_1 : decode cX1_endMorning 1 = .ok (.getfield 15, 3) := by decide +kernel
theorem dX1_endMorning_4 : decode cX1_endMorning 4 = .ok (.ifCond .ne 4, 3) := by decide +kernel
theorem dX1_endMorning_7 : decode cX1_endMorning 7 = .ok (.return_, 1) := by decide +kernel
theorem dX1_endMorning_8 : decode cX1_endMorning 8 = .ok (.aload_n 0, 1) := by decide +kernel
theorem dX1_endMorning_9 : decode cX1_endMorning 9 = .ok (.getfield 59, 3) := by decide +kernel
theorem dX1_endMorning_12 : decode cX1_endMorning 12 = .ok (.ifCond .ne 35, 3) := by decide +kernel
theorem dX1_endMorning_15 : decode cX1_endMorning 15 = .ok (.aload_n 0, 1) := by decide +kernel
theorem dX1_endMorning_16 : decode cX1_endMorning 16 = .ok (.iconst 0, 1) := by decide +kernel
theorem dX1_endMorning_17 : decode cX1_endMorning 17 = .ok (.aload_n 0, 1) := by decide +kernel
theorem dX1_endMorning_18 : decode cX1_endMorning 18 = .ok (.getfield 34, 3) := by decide +kernel
theorem dX1_endMorning_21 : decode cX1_endMorning 21 = .ok (.iconst 2, 1) := by decide +kernel
theorem dX1_endMorning_22 : decode cX1_endMorning 22 = .ok (.isub, 1) := by decide +kernel
theorem dX1_endMorning_23 : decode cX1_endMorning 23 = .ok (.invokestatic 50, 3) := by decide +kernel
theorem dX1_endMorning_26 : decode cX1_endMorning 26 = .ok (.putfield 34, 3) := by decide +kernel
theorem dX1_endMorning_29 : decode cX1_endMorning 29 = .ok (.aload_n 0, 1) := by decide +kernel
theorem dX1_endMorning_30 : decode cX1_endMorning 30 = .ok (.bipush 9, 2) := by decide +kernel
theorem dX1_endMorning_32 : decode cX1_endMorning 32 = .ok (.aload_n 0, 1) := by decide +kernel
theorem dX1_endMorning_33 : decode cX1_endMorning 33 = .ok (.getfield 37, 3) := by decide +kernel
theorem dX1_endMorning_36 : decode cX1_endMorning 36 = .ok (.iconst 1, 1) := by decide +kernel
theorem dX1_endMorning_37 : decode cX1_endMorning 37 = .ok (.iadd, 1) := by decide +kernel
theorem dX1_endMorning_38 : decode cX1_endMorning 38 = .ok (.invokestatic 44, 3) := by decide +kernel
theorem dX1_endMorning_41 : decode cX1_endMorning 41 = .ok (.putfield 37, 3) := by decide +kernel
theorem dX1_endMorning_44 : decode cX1_endMorning 44 = .ok (.goto 26, 3) := by decide +kernel
theorem dX1_endMorning_47 : decode cX1_endMorning 47 = .ok (.aload_n 0, 1) := by decide +kernel
theorem dX1_endMorning_48 : decode cX1_endMorning 48 = .ok (.bipush 99, 2) := by decide +kernel
theorem dX1_endMorning_50 : decode cX1_endMorning 50 = .ok (.aload_n 0, 1) := by decide +kernel
theorem dX1_endMorning_51 : decode cX1_endMorning 51 = .ok (.getfield 34, 3) := by decide +kernel
theorem dX1_endMorning_54 : decode cX1_endMorning 54 = .ok (.aload_n 0, 1) := by decide +kernel
theorem dX1_endMorning_55 : decode cX1_endMorning 55 = .ok (.getfield 68, 3) := by decide +kernel
theorem dX1_endMorning_58 : decode cX1_endMorning 58 = .ok (.iadd, 1) := by decide +kernel
theorem dX1_endMorning_59 : decode cX1_endMorning 59 = .ok (.invokestatic 44, 3) := by decide +kernel
theorem dX1_endMorning_62 : decode cX1_endMorning 62 = .ok (.putfield 34, 3) := by decide +kernel
theorem dX1_endMorning_65 : decode cX1_endMorning 65 = .ok (.aload_n 0, 1) := by decide +kernel
theorem dX1_endMorning_66 : decode cX1_endMorning 66 = .ok (.iconst 0, 1) := by decide +kernel
theorem dX1_endMorning_67 : decode cX1_endMorning 67 = .ok (.putfield 37, 3) := by decide +kernel
theorem dX1_endMorning_70 : decode cX1_endMorning 70 = .ok (.return_, 1) := by decide +kernel
theorem dX1_share_0 : decode cX1_share 0 = .ok (.iload_n 1, 1) := by decide +kernel
theorem dX1_share_1 : decode cX1_share 1 = .ok (.ifCond .le 16, 3) := by decide +kernel
theorem dX1_share_4 : decode cX1_share 4 = .ok (.iload_n 2, 1) := by decide +kernel
theorem dX1_share_5 : decode cX1_share 5 = .ok (.aload_n 0, 1) := by decide +kernel
theorem dX1_share_6 : decode cX1_share 6 = .ok (.getfield 28, 3) := by decide +kernel
theorem dX1_share_9 : decode cX1_share 9 = .ok (.iload_n 1, 1) := by decide +kernel
theorem dX1_share_10 : decode cX1_share 10 = .ok (.idiv, 1) := by decide +kernel
theorem dX1_share_11 : decode cX1_share 11 = .ok (.invokestatic 44, 3) := by decide +kernel
theorem dX1_share_14 : decode cX1_share 14 = .ok (.goto 4, 3) := by decide +kernel
theorem dX1_share_17 : decode cX1_share 17 = .ok (.iconst 0, 1) := by decide +kernel
theorem dX1_share_18 : decode cX1_share 18 = .ok (.ireturn, 1) := by decide +kernel
