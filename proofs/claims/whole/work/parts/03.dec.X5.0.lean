/-! decode rows -/
theorem dX5_init_0 : decode cX5_init 0 = .ok (.aload_n 0, 1) := by decide +kernel
theorem dX5_init_1 : decode cX5_init 1 = .ok (.invokespecial 3, 3) := by decide +kernel
theorem dX5_init_4 : decode cX5_init 4 = .ok (.aload_n 0, 1) := by decide +kernel
theorem dX5_init_5 : decode cX5_init 5 = .ok (.sipush 160, 3) := by decide +kernel
theorem dX5_init_8 : decode cX5_init 8 = .ok (.newarray .long, 2) := by decide +kernel
theorem dX5_init_10 : decode cX5_init 10 = .ok (.putfield 9, 3) := by decide +kernel
theorem dX5_init_13 : decode cX5_init 13 = .ok (.aload_n 0, 1) := by decide +kernel
theorem dX5_init_14 : decode cX5_init 14 = .ok (.iconst (-1), 1) := by decide +kernel
theorem dX5_init_15 : decode cX5_init 15 = .ok (.putfield 15, 3) := by decide +kernel
theorem dX5_init_18 : decode cX5_init 18 = .ok (.aload_n 0, 1) := by decide +kernel
theorem dX5_init_19 : decode cX5_init 19 = .ok (.iconst (-1), 1) := by decide +kernel
theorem dX5_init_20 : decode cX5_init 20 = .ok (.putfield 19, 3) := by decide +kernel
theorem dX5_init_23 : decode cX5_init 23 = .ok (.return_, 1) := by decide +kernel
theorem dX5_takeRow_0 : decode cX5_takeRow 0 = .ok (.aload_n 0, 1) := by decide +kernel
theorem dX5_takeRow_1 : decode cX5_takeRow 1 = .ok (.iload_n 1, 1) := by decide +kernel
theorem dX5_takeRow_2 : decode cX5_takeRow 2 = .ok (.putfield 15, 3) := by decide +kernel
theorem dX5_takeRow_5 : decode cX5_takeRow 5 = .ok (.aload_n 0, 1) := by decide +kernel
theorem dX5_takeRow_6 : decode cX5_takeRow 6 = .ok (.iconst 0, 1) := by decide +kernel
theorem dX5_takeRow_7 : decode cX5_takeRow 7 = .ok (.iload_n 2, 1) := by decide +kernel
theorem dX5_takeRow_8 : decode cX5_takeRow 8 = .ok (.aload_n 0, 1) := by decide +kernel
theorem dX5_takeRow_9 : decode cX5_takeRow 9 = .ok (.getfield 9, 3) := by decide +kernel
theorem dX5_takeRow_12 : decode cX5_takeRow 12 = .ok (.arraylength, 1) := by decide +kernel
theorem dX5_takeRow_13 : decode cX5_takeRow 13 = .ok (.invokestatic 22, 3) := by decide +kernel
theorem dX5_takeRow_16 : decode cX5_takeRow 16 = .ok (.invokestatic 28, 3) := by decide +kernel
theorem dX5_takeRow_19 : decode cX5_takeRow 19 = .ok (.putfield 31, 3) := by decide +kernel
theorem dX5_takeRow_22 : decode cX5_takeRow 22 = .ok (.aload_n 0, 1) := by decide +kernel
theorem dX5_takeRow_23 : decode cX5_takeRow 23 = .ok (.iconst (-1), 1) := by decide +kernel
theorem dX5_takeRow_24 : decode cX5_takeRow 24 = .ok (.putfield 19, 3) := by decide +kernel
theorem dX5_takeRow_27 : decode cX5_takeRow 27 = .ok (.iconst 0, 1) := by decide +kernel
theorem dX5_takeRow_28 : decode cX5_takeRow 28 = .ok (.istore_n 3, 1) := by decide +kernel
theorem dX5_takeRow_29 : decode cX5_takeRow 29 = .ok (.iload_n 3, 1) := by decide +kernel
theorem dX5_takeRow_30 : decode cX5_takeRow 30 = .ok (.aload_n 0, 1) := by decide +kernel
theorem dX5_takeRow_31 : decode cX5_takeRow 31 = .ok (.getfield 9, 3) := by decide +kernel
theorem dX5_takeRow_34 : decode cX5_takeRow 34 = .ok (.arraylength, 1) := by decide +kernel
theorem dX5_takeRow_35 : decode cX5_takeRow 35 = .ok (.if_icmp .ge 16, 3) := by decide +kernel
theorem dX5_takeRow_38 : decode cX5_takeRow 38 = .ok (.aload_n 0, 1) := by decide +kernel
theorem dX5_takeRow_39 : decode cX5_takeRow 39 = .ok (.getfield 9, 3) := by decide +kernel
theorem dX5_takeRow_42 : decode cX5_takeRow 42 = .ok (.iload_n 3, 1) := by decide +kernel
theorem dX5_takeRow_43 : decode cX5_takeRow 43 = .ok (.lconst 0, 1) := by decide +kernel
theorem dX5_takeRow_44 : decode cX5_takeRow 44 = .ok (.lastore, 1) := by decide +kernel
theorem dX5_takeRow_45 : decode cX5_takeRow 45 = .ok (.iinc 3 1, 3) := by decide +kernel
theorem dX5_takeRow_48 : decode cX5_takeRow 48 = .ok (.goto (-19), 3) := by decide +kernel
theorem dX5_takeRow_51 : decode cX5_takeRow 51 = .ok (.return_, 1) := by decide +kernel
theorem dX5_takeCitizen_0 : decode cX5_takeCitizen 0 = .ok (.aload_n 0, 1) := by decide +kernel
theorem dX5_takeCitizen_1 : decode cX5_takeCitizen 1 = .ok (.iconst (-1), 1) := by decide +kernel
theorem dX5_takeCitizen_2 : decode cX5_takeCitizen 2 = .ok (.putfield 15, 3) := by decide +kernel
theorem dX5_takeCitizen_5 : decode cX5_takeCitizen 5 = .ok (.aload_n 0, 1) := by decide +kernel
theorem dX5_takeCitizen_6 : decode cX5_takeCitizen 6 = .ok (.iconst 0, 1) := by decide +kernel
theorem dX5_takeCitizen_7 : decode cX5_takeCitizen 7 = .ok (.putfield 31, 3) := by decide +kernel
theorem dX5_takeCitizen_10 : decode cX5_takeCitizen 10 = .ok (.aload_n 0, 1) := by decide +kernel
theorem dX5_takeCitizen_11 : decode cX5_takeCitizen 11 = .ok (.iload_n 1, 1) := by decide +kernel
theorem dX5_takeCitizen_12 : decode cX5_takeCitizen 12 = .ok (.putfield 19, 3) := by decide +kernel
theorem dX5_takeCitizen_15 : decode cX5_takeCitizen 15 = .ok (.return_, 1) := by decide +kernel
theorem dX5_hasRow_0 : decode cX5_hasRow 0 = .ok (.aload_n 0, 1) := by decide +kernel
theorem dX5_hasRow_1 : decode cX5_hasRow 1 = .ok (.getfield 15, 3) := by decide +kernel
theorem dX5_hasRow_4 : decode cX5_hasRow 4 = .ok (.iconst (-1), 1) := by decide +kernel
theorem dX5_hasRow_5 : decode cX5_hasRow 5 = .ok (.if_icmp .eq 7, 3) := by decide +kernel
theorem dX5_hasRow_8 : decode cX5_hasRow 8 = .ok (.iconst 1, 1) := by decide +kernel
theorem dX5_hasRow_9 : decode cX5_hasRow 9 = .ok (.goto 4, 3) := by decide +kernel
theorem dX5_hasRow_12 : decode cX5_hasRow 12 = .ok (.iconst 0, 1) := by decide +kernel
theorem dX5_hasRow_13 : decode cX5_hasRow 13 = .ok (.ireturn, 1) := by decide +kernel
theorem dX5_hasCitizen_0 : decode cX5_hasCitizen 0 = .ok (.aload_n 0, 1) := by decide +kernel
theorem dX5_hasCitizen_1 : decode cX5_hasCitizen 1 = .ok (.getfield 19, 3) := by decide +kernel
theorem dX5_hasCitizen_4 : decode cX5_hasCitizen 4 = .ok (.iconst (-1), 1) := by decide +kernel
theorem dX5_hasCitizen_5 : decode cX5_hasCitizen 5 = .ok (.if_icmp .eq 7, 3) := by decide +kernel
theorem dX5_hasCitizen_8 : decode cX5_hasCitizen 8 = .ok (.iconst 1, 1) := by decide +kernel
theorem dX5_hasCitizen_9 : decode cX5_hasCitizen 9 = .ok (.goto 4, 3) := by decide +kernel
theorem dX5_hasCitizen_12 : decode cX5_hasCitizen 12 = .ok (.iconst 0, 1) := by decide +kernel
theorem dX5_hasCitizen_13 : decode cX5_hasCitizen 13 = .ok (.ireturn, 1) := by decide +kernel
theorem dX5_differsInSort_0 : decode cX5_differsInSort 0 = .ok (.aload_n 0, 1) := by decide +kernel
theorem dX5_differsInSort_1 : decode cX5_differsInSort 1 = .ok (.invokevirtual 34, 3) := by decide +kernel
theorem dX5_differsInSort_4 : decode cX5_differsInSort 4 = .ok (.ifCond .eq 25, 3) := by decide +kernel
theorem dX5_differsInSort_7 : decode cX5_differsInSort 7 = .ok (.aload_n 1, 1) := by decide +kernel
theorem dX5_differsInSort_8 : decode cX5_differsInSort 8 = .ok (.invokevirtual 34, 3) := by decide +kernel
theorem dX5_differsInSort_11 : decode cX5_differsInSort 11 = .ok (.ifCond .eq 18, 3) := by decide +kernel
theorem dX5_differsInSort_14 : decode cX5_differsInSort 14 = .ok (.aload_n 0, 1) := by decide +kernel
theorem dX5_differsInSort_15 : decode cX5_differsInSort 15 = .ok (.getfield 15, 3) := by decide +kernel
theorem dX5_differsInSort_18 : decode cX5_differsInSort 18 = .ok (.aload_n 1, 1) := by decide +kernel
theorem dX5_differsInSort_19 : decode cX5_differsInSort 19 = .ok (.getfield 15, 3) := by decide +kernel
theorem dX5_differsInSort_22 : decode cX5_differsInSort 22 = .ok (.if_icmp .eq 7, 3) := by decide +kernel
theorem dX5_differsInSort_25 : decode cX5_differsInSort 25 = .ok (.iconst 1, 1) := by decide +kernel
theorem dX5_differsInSort_26 : decode cX5_differsInSort 26 = .ok (.goto 4, 3) := by decide +kernel
theorem dX5_differsInSort_29 : decode cX5_differsInSort 29 = .ok (.iconst 0, 1) := by decide +kernel
theorem dX5_differsInSort_30 : decode cX5_differsInSort 30 = .ok (.ireturn, 1) := by decide +kernel
theorem dX5_hasElement_0 : decode cX5_hasElement 0 = .ok (.iload_n 1, 1) := by decide +kernel
theorem dX5_hasElement_1 : decode cX5_hasElement 1 = .ok (.ifCond .lt 24, 3) := by decide +kernel
theorem dX5_hasElement_4 : decode cX5_hasElement 4 = .ok (.iload_n 1, 1) := by decide +kernel
theorem dX5_hasElement_5 : decode cX5_hasElement 5 = .ok (.aload_n 0, 1) := by decide +kernel
theorem dX5_hasElement_6 : decode cX5_hasElement 6 = .ok (.getfield 31, 3) := by decide +kernel
theorem dX5_hasElement_9 : decode cX5_hasElement 9 = .ok (.if_icmp .ge 16, 3) := by decide +kernel
theorem dX5_hasElement_12 : decode cX5_hasElement 12 = .ok (.iload_n 1, 1) := by decide +kernel
theorem dX5_hasElement_13 : decode cX5_hasElement 13 = .ok (.aload_n 0, 1) := by decide +kernel
theorem dX5_hasElement_14 : decode cX5_hasElement 14 = .ok (.getfield 9, 3) := by decide +kernel
theorem dX5_hasElement_17 : decode cX5_hasElement 17 = .ok (.arraylength, 1) := by decide +kernel
theorem dX5_hasElement_18 : decode cX5_hasElement 18 = .ok (.if_icmp .ge 7, 3) := by decide +kernel
theorem dX5_hasElement_21 : decode cX5_hasElement 21 = .ok (.iconst 1, 1) := by decide +kernel
theorem dX5_hasElement_22 : decode cX5_hasElement 22 = .ok (.goto 4, 3) := by decide +kernel
theorem dX5_hasElement_25 : decode cX5_hasElement 25 = .ok (.iconst 0, 1) := by decide +kernel
theorem dX5_hasElement_26 : decode cX5_hasElement 26 = .ok (.ireturn, 1) := by decide +kernel
theorem dX5_hasStretch_0 : decode cX5_hasStretch 0 = .ok (.iload_n 1, 1) := by decide +kernel
theorem dX5_hasStretch_1 : decode cX5_hasStretch 1 = .ok (.ifCond .lt 21, 3) := by decide +kernel
theorem dX5_hasStretch_4 : decode cX5_hasStretch 4 = .ok (.iload_n 2, 1) := by decide +kernel
theorem dX5_hasStretch_5 : decode cX5_hasStretch 5 = .ok (.ifCond .lt 17, 3) := by decide +kernel
theorem dX5_hasStretch_8 : decode cX5_hasStretch 8 = .ok (.iload_n 2, 1) := by decide +kernel
theorem dX5_hasStretch_9 : decode cX5_hasStretch 9 = .ok (.aload_n 0, 1) := by decide +kernel
theorem dX5_hasStretch_10 : decode cX5_hasStretch 10 = .ok (.getfield 31, 3) := by decide +kernel
theorem dX5_hasStretch_13 : decode cX5_hasStretch 13 = .ok (.iload_n 1, 1) := by decide +kernel
theorem dX5_hasStretch_14 : decode cX5_hasStretch 14 = .ok (.isub, 1) := by decide +kernel
theorem dX5_hasStretch_15 : decode cX5_hasStretch 15 = .ok (.if_icmp .gt 7, 3) := by decide +kernel
theorem dX5_hasStretch_18 : decode cX5_hasStretch 18 = .ok (.iconst 1, 1) := by decide +kernel
theorem dX5_hasStretch_19 : decode cX5_hasStretch 19 = .ok (.goto 4, 3) := by decide +kernel
theorem dX5_hasStretch_22 : decode cX5_hasStretch 22 = .ok (.iconst 0, 1) := by decide +kernel
theorem dX5_hasStretch_23 : decode cX5_hasStretch 23 = .ok (.ireturn, 1) := by decide +kernel
theorem dX5_get_0 : decode cX5_get 0 = .ok (.aload_n 0, 1) := by decide +kernel
theorem dX5_get_1 : decode cX5_get 1 = .ok (.iload_n 1, 1) := by decide +kernel
theorem dX5_get_2 : decode cX5_get 2 = .ok (.invokevirtual 38, 3) := by decide +kernel
theorem dX5_get_5 : decode cX5_get 5 = .ok (.ifCond .eq 12, 3) := by decide +kernel
theorem dX5_get_8 : decode cX5_get 8 = .ok (.aload_n 0, 1) := by decide +kernel
theorem dX5_get_9 : decode cX5_get 9 = .ok (.getfield 9, 3) := by decide +kernel
theorem dX5_get_12 : decode cX5_get 12 = .ok (.iload_n 1, 1) := by decide +kernel
theorem dX5_get_13 : decode cX5_get 13 = .ok (.laload, 1) := by decide +kernel
theorem dX5_get_14 : decode cX5_get 14 = .ok (.goto 4, 3) := by decide +kernel
theorem dX5_get_17 : decode cX5_get 17 = .ok (.lconst 0, 1) := by decide +kernel
theorem dX5_get_18 : decode cX5_get 18 = .ok (.lreturn, 1) := by decide +kernel
theorem dX5_getInt_0 : decode cX5_getInt 0 = .ok (.aload_n 0, 1) := by decide +kernel
theorem dX5_getInt_1 : decode cX5_getInt 1 = .ok (.iload_n 1, 1) := by decide +kernel
theorem dX5_getInt_2 : decode cX5_getInt 2 = .ok (.invokevirtual 42, 3) := by decide +kernel
theorem dX5_getInt_5 : decode cX5_getInt 5 = .ok (.l2i, 1) := by decide +kernel
theorem dX5_getInt_6 : decode cX5_getInt 6 = .ok (.ireturn, 1) := by decide +kernel
theorem dX5_put_0 : decode cX5_put 0 = .ok (.aload_n 0, 1) := by decide +kernel
theorem dX5_put_1 : decode cX5_put 1 = .ok (.iload_n 1, 1) := by decide +kernel
theorem dX5_put_2 : decode cX5_put 2 = .ok (.invokevirtual 38, 3) := by decide +kernel
theorem dX5_put_5 : decode cX5_put 5 = .ok (.ifCond .ne 4, 3) := by decide +kernel
theorem dX5_put_8 : decode cX5_put 8 = .ok (.return_, 1) := by decide +kernel
theorem dX5_put_9 : decode cX5_put 9 = .ok (.aload_n 0, 1) := by decide +kernel
theorem dX5_put_10 : decode cX5_put 10 = .ok (.getfield 15, 3) := by decide +kernel
theorem dX5_put_13 : decode cX5_put 13 = .ok (.tableswitch 79 0 3 #[31, 44, 57, 69], 31) := by decide +kernel
theorem dX5_put_44 : decode cX5_put 44 = .ok (.aload_n 0, 1) := by decide +kernel
theorem dX5_put_45 : decode cX5_put 45 = .ok (.getfield 9, 3) := by decide +kernel
theorem dX5_put_48 : decode cX5_put 48 = .ok (.iload_n 1, 1) := by decide +kernel
theorem dX5_put_49 : decode cX5_put 49 = .ok (.lload_n 2, 1) := by decide +kernel
theorem dX5_put_50 : decode cX5_put 50 = .ok (.l2i, 1) := by decide +kernel
theorem dX5_put_51 : decode cX5_put 51 = .ok (.i2b, 1) := by decide +kernel
theorem dX5_put_52 : decode cX5_put 52 = .ok (.i2l, 1) := by decide +kernel
theorem dX5_put_53 : decode cX5_put 53 = .ok (.lastore, 1) := by decide +kernel
theorem dX5_put_54 : decode cX5_put 54 = .ok (.goto 38, 3) := by decide +kernel
theorem dX5_put_57 : decode cX5_put 57 = .ok (.aload_n 0, 1) := by decide +kernel
theorem dX5_put_58 : decode cX5_put 58 = .ok (.getfield 9, 3) := by decide +kernel
theorem dX5_put_61 : decode cX5_put 61 = .ok (.iload_n 1, 1) := by decide +kernel
theorem dX5_put_62 : decode cX5_put 62 = .ok (.lload_n 2, 1) := by decide +kernel
theorem dX5_put_63 : decode cX5_put 63 = .ok (.l2i, 1) := by decide +kernel
theorem dX5_put_64 : decode cX5_put 64 = .ok (.i2s, 1) := by decide +kernel
theorem dX5_put_65 : decode cX5_put 65 = .ok (.i2l, 1) := by decide +kernel
theorem dX5_put_66 : decode cX5_put 66 = .ok (.lastore, 1) := by decide +kernel
theorem dX5_put_67 : decode cX5_put 67 = .ok (.goto 25, 3) := by decide +kernel
theorem dX5_put_70 : decode cX5_put 70 = .ok (.aload_n 0, 1) := by decide +kernel
theorem dX5_put_71 : decode cX5_put 71 = .ok (.getfield 9, 3) := by decide +kernel
theorem dX5_put_74 : decode cX5_put 74 = .ok (.iload_n 1, 1) := by decide +kernel
theorem dX5_put_75 : decode cX5_put 75 = .ok (.lload_n 2, 1) := by decide +kernel
theorem dX5_put_76 : decode cX5_put 76 = .ok (.l2i, 1) := by decide +kernel
theorem dX5_put_77 : decode cX5_put 77 = .ok (.i2l, 1) := by decide +kernel
theorem dX5_put_78 : decode cX5_put 78 = .ok (.lastore, 1) := by decide +kernel
theorem dX5_put_79 : decode cX5_put 79 = .ok (.goto 13, 3) := by decide +kernel
theorem dX5_put_82 : decode cX5_put 82 = .ok (.aload_n 0, 1) := by decide +kernel
theorem dX5_put_83 : decode cX5_put 83 = .ok (.getfield 9, 3) := by decide +kernel
theorem dX5_put_86 : decode cX5_put 86 = .ok (.iload_n 1, 1) := by decide +kernel
theorem dX5_put_87 : decode cX5_put 87 = .ok (.lload_n 2, 1) := by decide +kernel
theorem dX5_put_88 : decode cX5_put 88 = .ok (.lastore, 1) := by decide +kernel
theorem dX5_put_89 : decode cX5_put 89 = .ok (.goto 3, 3) := by decide +kernel
theorem dX5_put_92 : decode cX5_put 92 = .ok (.return_, 1) := by decide +kernel
theorem dX5_takeElements_0 : decode cX5_takeElements 0 = .ok (.aload_n 1, 1) := by decide +kernel
theorem dX5_takeElements_1 : decode cX5_takeElements 1 = .ok (.iload_n 2, 1) := by decide +kernel
theorem dX5_takeElements_2 : decode cX5_takeElements 2 = .ok (.iload 4, 2) := by decide +kernel
theorem dX5_takeElements_4 : decode cX5_takeElements 4 = .ok (.invokevirtual 46, 3) := by decide +kernel
theorem dX5_takeElements_7 : decode cX5_takeElements 7 = .ok (.ifCond .eq 28, 3) := by decide +kernel
theorem dX5_takeElements_10 : decode cX5_takeElements 10 = .ok (.aload_n 0, 1) := by decide +kernel
theorem dX5_takeElements_11 : decode cX5_takeElements 11 = .ok (.iload_n 3, 1) := by decide +kernel
theorem dX5_takeElements_12 : decode cX5_takeElements 12 = .ok (.iload 4, 2) := by decide +kernel
theorem dX5_takeElements_14 : decode cX5_takeElements 14 = .ok (.invokevirtual 46, 3) := by decide +kernel
theorem dX5_takeElements_17 : decode cX5_takeElements 17 = .ok (.ifCond .eq 18, 3) := by decide +kernel
theorem dX5_takeElements_20 : decode cX5_takeElements 20 = .ok (.aload_n 1, 1) := by decide +kernel
theorem dX5_takeElements_21 : decode cX5_takeElements 21 = .ok (.getfield 9, 3) := by decide +kernel
theorem dX5_takeElements_24 : decode cX5_takeElements 24 = .ok (.iload_n 2, 1) := by decide +kernel
theorem dX5_takeElements_25 : decode cX5_takeElements 25 = .ok (.aload_n 0, 1) := by decide +kernel
theorem dX5_takeElements_26 : decode cX5_takeElements 26 = .ok (.getfield 9, 3) := by decide +kernel
theorem dX5_takeElements_29 : decode cX5_takeElements 29 = .ok (.iload_n 3, 1) := by decide +kernel
theorem dX5_takeElements_30 : decode cX5_takeElements 30 = .ok (.iload 4, 2) := by decide +kernel
theorem dX5_takeElements_32 : decode cX5_takeElements 32 = .ok (.invokestatic 50, 3) := by decide +kernel
theorem dX5_takeElements_35 : decode cX5_takeElements 35 = .ok (.return_, 1) := by decide +kernel
