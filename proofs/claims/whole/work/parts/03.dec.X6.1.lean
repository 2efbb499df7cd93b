/-! decode rows -/
theorem dX6_winters_47 : decode cX6_winters 47 = .ok (.goto (-25), 3) := by decide +kernel
theorem dX6_winters_50 : decode cX6_winters 50 = .ok (.iload_n 2, 1) := by decide +kernel
theorem dX6_winters_51 : decode cX6_winters 51 = .ok (.ireturn, 1) := by decide +kernel
theorem dX6_seed_0 : decode cX6_seed 0 = .ok (.aload_n 0, 1) := by decide +kernel
theorem dX6_seed_1 : decode cX6_seed 1 = .ok (.getfield 10, 3) := by decide +kernel
theorem dX6_seed_4 : decode cX6_seed 4 = .ok (.getfield 266, 3) := by decide +kernel
theorem dX6_seed_7 : decode cX6_seed 7 = .ok (.istore_n 2, 1) := by decide +kernel
theorem dX6_seed_8 : decode cX6_seed 8 = .ok (.aload_n 0, 1) := by decide +kernel
theorem dX6_seed_9 : decode cX6_seed 9 = .ok (.getfield 10, 3) := by decide +kernel
theorem dX6_seed_12 : decode cX6_seed 12 = .ok (.iload_n 1, 1) := by decide +kernel
theorem dX6_seed_13 : decode cX6_seed 13 = .ok (.putfield 266, 3) := by decide +kernel
theorem dX6_seed_16 : decode cX6_seed 16 = .ok (.iload_n 2, 1) := by decide +kernel
theorem dX6_seed_17 : decode cX6_seed 17 = .ok (.ireturn, 1) := by decide +kernel
theorem dX6_act_0 : decode cX6_act 0 = .ok (.aload_n 0, 1) := by decide +kernel
theorem dX6_act_1 : decode cX6_act 1 = .ok (.getfield 42, 3) := by decide +kernel
theorem dX6_act_4 : decode cX6_act 4 = .ok (.invokevirtual 269, 3) := by decide +kernel
theorem dX6_act_7 : decode cX6_act 7 = .ok (.aload_n 0, 1) := by decide +kernel
theorem dX6_act_8 : decode cX6_act 8 = .ok (.getfield 10, 3) := by decide +kernel
theorem dX6_act_11 : decode cX6_act 11 = .ok (.iload_n 1, 1) := by decide +kernel
theorem dX6_act_12 : decode cX6_act 12 = .ok (.invokevirtual 94, 3) := by decide +kernel
theorem dX6_act_15 : decode cX6_act 15 = .ok (.astore 4, 2) := by decide +kernel
theorem dX6_act_17 : decode cX6_act 17 = .ok (.aload 4, 2) := by decide +kernel
theorem dX6_act_19 : decode cX6_act 19 = .ok (.ifnull 12, 3) := by decide +kernel
theorem dX6_act_22 : decode cX6_act 22 = .ok (.iload_n 2, 1) := by decide +kernel
theorem dX6_act_23 : decode cX6_act 23 = .ok (.ifCond .lt 8, 3) := by decide +kernel
theorem dX6_act_26 : decode cX6_act 26 = .ok (.iload_n 2, 1) := by decide +kernel
theorem dX6_act_27 : decode cX6_act 27 = .ok (.iconst 3, 1) := by decide +kernel
theorem dX6_act_28 : decode cX6_act 28 = .ok (.if_icmp .lt 5, 3) := by decide +kernel
theorem dX6_act_31 : decode cX6_act 31 = .ok (.iconst 0, 1) := by decide +kernel
theorem dX6_act_32 : decode cX6_act 32 = .ok (.ireturn, 1) := by decide +kernel
theorem dX6_act_33 : decode cX6_act 33 = .ok (.aload_n 0, 1) := by decide +kernel
theorem dX6_act_34 : decode cX6_act 34 = .ok (.getfield 42, 3) := by decide +kernel
theorem dX6_act_37 : decode cX6_act 37 = .ok (.aload 4, 2) := by decide +kernel
theorem dX6_act_39 : decode cX6_act 39 = .ok (.iload_n 2, 1) := by decide +kernel
theorem dX6_act_40 : decode cX6_act 40 = .ok (.iload_n 3, 1) := by decide +kernel
theorem dX6_act_41 : decode cX6_act 41 = .ok (.invokevirtual 272, 3) := by decide +kernel
theorem dX6_act_44 : decode cX6_act 44 = .ok (.ireturn, 1) := by decide +kernel
theorem dX6_trace_0 : decode cX6_trace 0 = .ok (.aload_n 0, 1) := by decide +kernel
theorem dX6_trace_1 : decode cX6_trace 1 = .ok (.getfield 42, 3) := by decide +kernel
theorem dX6_trace_4 : decode cX6_trace 4 = .ok (.iload_n 1, 1) := by decide +kernel
theorem dX6_trace_5 : decode cX6_trace 5 = .ok (.invokevirtual 276, 3) := by decide +kernel
theorem dX6_trace_8 : decode cX6_trace 8 = .ok (.ireturn, 1) := by decide +kernel
theorem dX6_image_0 : decode cX6_image 0 = .ok (.aload_n 0, 1) := by decide +kernel
theorem dX6_image_1 : decode cX6_image 1 = .ok (.getfield 19, 3) := by decide +kernel
theorem dX6_image_4 : decode cX6_image 4 = .ok (.aload_n 0, 1) := by decide +kernel
theorem dX6_image_5 : decode cX6_image 5 = .ok (.getfield 10, 3) := by decide +kernel
theorem dX6_image_8 : decode cX6_image 8 = .ok (.invokevirtual 181, 3) := by decide +kernel
theorem dX6_image_11 : decode cX6_image 11 = .ok (.aload_n 0, 1) := by decide +kernel
theorem dX6_image_12 : decode cX6_image 12 = .ok (.iconst 1, 1) := by decide +kernel
theorem dX6_image_13 : decode cX6_image 13 = .ok (.putfield 279, 3) := by decide +kernel
theorem dX6_image_16 : decode cX6_image 16 = .ok (.aload_n 0, 1) := by decide +kernel
theorem dX6_image_17 : decode cX6_image 17 = .ok (.getfield 10, 3) := by decide +kernel
theorem dX6_image_20 : decode cX6_image 20 = .ok (.getfield 282, 3) := by decide +kernel
theorem dX6_image_23 : decode cX6_image 23 = .ok (.ireturn, 1) := by decide +kernel
theorem dX6_restore_0 : decode cX6_restore 0 = .ok (.aload_n 0, 1) := by decide +kernel
theorem dX6_restore_1 : decode cX6_restore 1 = .ok (.getfield 279, 3) := by decide +kernel
theorem dX6_restore_4 : decode cX6_restore 4 = .ok (.ifCond .ne 11, 3) := by decide +kernel
theorem dX6_restore_7 : decode cX6_restore 7 = .ok (.aload_n 0, 1) := by decide +kernel
theorem dX6_restore_8 : decode cX6_restore 8 = .ok (.iconst 0, 1) := by decide +kernel
theorem dX6_restore_9 : decode cX6_restore 9 = .ok (.bipush 6, 2) := by decide +kernel
theorem dX6_restore_11 : decode cX6_restore 11 = .ok (.invokevirtual 51, 3) := by decide +kernel
theorem dX6_restore_14 : decode cX6_restore 14 = .ok (.ireturn, 1) := by decide +kernel
theorem dX6_restore_15 : decode cX6_restore 15 = .ok (.aload_n 0, 1) := by decide +kernel
theorem dX6_restore_16 : decode cX6_restore 16 = .ok (.getfield 10, 3) := by decide +kernel
theorem dX6_restore_19 : decode cX6_restore 19 = .ok (.aload_n 0, 1) := by decide +kernel
theorem dX6_restore_20 : decode cX6_restore 20 = .ok (.getfield 19, 3) := by decide +kernel
theorem dX6_restore_23 : decode cX6_restore 23 = .ok (.invokevirtual 181, 3) := by decide +kernel
theorem dX6_restore_26 : decode cX6_restore 26 = .ok (.aload_n 0, 1) := by decide +kernel
theorem dX6_restore_27 : decode cX6_restore 27 = .ok (.getfield 24, 3) := by decide +kernel
theorem dX6_restore_30 : decode cX6_restore 30 = .ok (.astore_n 1, 1) := by decide +kernel
theorem dX6_restore_31 : decode cX6_restore 31 = .ok (.aload_n 1, 1) := by decide +kernel
theorem dX6_restore_32 : decode cX6_restore 32 = .ok (.arraylength, 1) := by decide +kernel
theorem dX6_restore_33 : decode cX6_restore 33 = .ok (.istore_n 2, 1) := by decide +kernel
theorem dX6_restore_34 : decode cX6_restore 34 = .ok (.iconst 0, 1) := by decide +kernel
theorem dX6_restore_35 : decode cX6_restore 35 = .ok (.istore_n 3, 1) := by decide +kernel
theorem dX6_restore_36 : decode cX6_restore 36 = .ok (.iload_n 3, 1) := by decide +kernel
theorem dX6_restore_37 : decode cX6_restore 37 = .ok (.iload_n 2, 1) := by decide +kernel
theorem dX6_restore_38 : decode cX6_restore 38 = .ok (.if_icmp .ge 43, 3) := by decide +kernel
theorem dX6_restore_41 : decode cX6_restore 41 = .ok (.aload_n 1, 1) := by decide +kernel
theorem dX6_restore_42 : decode cX6_restore 42 = .ok (.iload_n 3, 1) := by decide +kernel
theorem dX6_restore_43 : decode cX6_restore 43 = .ok (.aaload, 1) := by decide +kernel
theorem dX6_restore_44 : decode cX6_restore 44 = .ok (.astore 4, 2) := by decide +kernel
theorem dX6_restore_46 : decode cX6_restore 46 = .ok (.aload 4, 2) := by decide +kernel
theorem dX6_restore_48 : decode cX6_restore 48 = .ok (.invokevirtual 71, 3) := by decide +kernel
theorem dX6_restore_51 : decode cX6_restore 51 = .ok (.ifCond .eq 24, 3) := by decide +kernel
theorem dX6_restore_54 : decode cX6_restore 54 = .ok (.aload_n 0, 1) := by decide +kernel
theorem dX6_restore_55 : decode cX6_restore 55 = .ok (.getfield 10, 3) := by decide +kernel
theorem dX6_restore_58 : decode cX6_restore 58 = .ok (.aload 4, 2) := by decide +kernel
theorem dX6_restore_60 : decode cX6_restore 60 = .ok (.getfield 106, 3) := by decide +kernel
theorem dX6_restore_63 : decode cX6_restore 63 = .ok (.invokevirtual 94, 3) := by decide +kernel
theorem dX6_restore_66 : decode cX6_restore 66 = .ok (.ifnonnull 9, 3) := by decide +kernel
theorem dX6_restore_69 : decode cX6_restore 69 = .ok (.aload 4, 2) := by decide +kernel
theorem dX6_restore_71 : decode cX6_restore 71 = .ok (.iconst (-1), 1) := by decide +kernel
theorem dX6_restore_72 : decode cX6_restore 72 = .ok (.invokevirtual 98, 3) := by decide +kernel
theorem dX6_restore_75 : decode cX6_restore 75 = .ok (.iinc 3 1, 3) := by decide +kernel
theorem dX6_restore_78 : decode cX6_restore 78 = .ok (.goto (-42), 3) := by decide +kernel
theorem dX6_restore_81 : decode cX6_restore 81 = .ok (.aload_n 0, 1) := by decide +kernel
theorem dX6_restore_82 : decode cX6_restore 82 = .ok (.getfield 10, 3) := by decide +kernel
theorem dX6_restore_85 : decode cX6_restore 85 = .ok (.getfield 282, 3) := by decide +kernel
theorem dX6_restore_88 : decode cX6_restore 88 = .ok (.ireturn, 1) := by decide +kernel
theorem dX6_status_0 : decode cX6_status 0 = .ok (.iload_n 1, 1) := by decide +kernel
theorem dX6_status_1 : decode cX6_status 1 = .ok (.bipush 10, 2) := by decide +kernel
theorem dX6_status_3 : decode cX6_status 3 = .ok (.if_icmp .le 25, 3) := by decide +kernel
theorem dX6_status_6 : decode cX6_status 6 = .ok (.iload_n 1, 1) := by decide +kernel
theorem dX6_status_7 : decode cX6_status 7 = .ok (.bipush 10, 2) := by decide +kernel
theorem dX6_status_9 : decode cX6_status 9 = .ok (.isub, 1) := by decide +kernel
theorem dX6_status_10 : decode cX6_status 10 = .ok (.aload_n 0, 1) := by decide +kernel
theorem dX6_status_11 : decode cX6_status 11 = .ok (.getfield 28, 3) := by decide +kernel
theorem dX6_status_14 : decode cX6_status 14 = .ok (.arraylength, 1) := by decide +kernel
theorem dX6_status_15 : decode cX6_status 15 = .ok (.if_icmp .ge 13, 3) := by decide +kernel
theorem dX6_status_18 : decode cX6_status 18 = .ok (.aload_n 0, 1) := by decide +kernel
theorem dX6_status_19 : decode cX6_status 19 = .ok (.getfield 28, 3) := by decide +kernel
theorem dX6_status_22 : decode cX6_status 22 = .ok (.iload_n 1, 1) := by decide +kernel
theorem dX6_status_23 : decode cX6_status 23 = .ok (.bipush 10, 2) := by decide +kernel
theorem dX6_status_25 : decode cX6_status 25 = .ok (.isub, 1) := by decide +kernel
theorem dX6_status_26 : decode cX6_status 26 = .ok (.iaload, 1) := by decide +kernel
theorem dX6_status_27 : decode cX6_status 27 = .ok (.ireturn, 1) := by decide +kernel
theorem dX6_status_28 : decode cX6_status 28 = .ok (.iload_n 1, 1) := by decide +kernel
theorem dX6_status_29 : decode cX6_status 29 = .ok (.tableswitch 123 0 8 #[51, 59, 67, 75, 83, 91, 99, 107, 115], 51) := by decide +kernel
theorem dX6_status_80 : decode cX6_status 80 = .ok (.aload_n 0, 1) := by decide +kernel
theorem dX6_status_81 : decode cX6_status 81 = .ok (.getfield 10, 3) := by decide +kernel
theorem dX6_status_84 : decode cX6_status 84 = .ok (.getfield 282, 3) := by decide +kernel
theorem dX6_status_87 : decode cX6_status 87 = .ok (.ireturn, 1) := by decide +kernel
theorem dX6_status_88 : decode cX6_status 88 = .ok (.aload_n 0, 1) := by decide +kernel
theorem dX6_status_89 : decode cX6_status 89 = .ok (.getfield 10, 3) := by decide +kernel
theorem dX6_status_92 : decode cX6_status 92 = .ok (.getfield 285, 3) := by decide +kernel
theorem dX6_status_95 : decode cX6_status 95 = .ok (.ireturn, 1) := by decide +kernel
theorem dX6_status_96 : decode cX6_status 96 = .ok (.aload_n 0, 1) := by decide +kernel
theorem dX6_status_97 : decode cX6_status 97 = .ok (.getfield 10, 3) := by decide +kernel
theorem dX6_status_100 : decode cX6_status 100 = .ok (.getfield 288, 3) := by decide +kernel
theorem dX6_status_103 : decode cX6_status 103 = .ok (.ireturn, 1) := by decide +kernel
theorem dX6_status_104 : decode cX6_status 104 = .ok (.aload_n 0, 1) := by decide +kernel
theorem dX6_status_105 : decode cX6_status 105 = .ok (.getfield 10, 3) := by decide +kernel
theorem dX6_status_108 : decode cX6_status 108 = .ok (.invokevirtual 291, 3) := by decide +kernel
theorem dX6_status_111 : decode cX6_status 111 = .ok (.ireturn, 1) := by decide +kernel
theorem dX6_status_112 : decode cX6_status 112 = .ok (.aload_n 0, 1) := by decide +kernel
theorem dX6_status_113 : decode cX6_status 113 = .ok (.getfield 10, 3) := by decide +kernel
theorem dX6_status_116 : decode cX6_status 116 = .ok (.invokevirtual 294, 3) := by decide +kernel
theorem dX6_status_119 : decode cX6_status 119 = .ok (.ireturn, 1) := by decide +kernel
theorem dX6_status_120 : decode cX6_status 120 = .ok (.aload_n 0, 1) := by decide +kernel
theorem dX6_status_121 : decode cX6_status 121 = .ok (.getfield 10, 3) := by decide +kernel
theorem dX6_status_124 : decode cX6_status 124 = .ok (.invokevirtual 297, 3) := by decide +kernel
theorem dX6_status_127 : decode cX6_status 127 = .ok (.ireturn, 1) := by decide +kernel
theorem dX6_status_128 : decode cX6_status 128 = .ok (.aload_n 0, 1) := by decide +kernel
theorem dX6_status_129 : decode cX6_status 129 = .ok (.getfield 10, 3) := by decide +kernel
theorem dX6_status_132 : decode cX6_status 132 = .ok (.invokevirtual 300, 3) := by decide +kernel
theorem dX6_status_135 : decode cX6_status 135 = .ok (.ireturn, 1) := by decide +kernel
theorem dX6_status_136 : decode cX6_status 136 = .ok (.aload_n 0, 1) := by decide +kernel
theorem dX6_status_137 : decode cX6_status 137 = .ok (.getfield 10, 3) := by decide +kernel
theorem dX6_status_140 : decode cX6_status 140 = .ok (.getfield 266, 3) := by decide +kernel
theorem dX6_status_143 : decode cX6_status 143 = .ok (.ireturn, 1) := by decide +kernel
theorem dX6_status_144 : decode cX6_status 144 = .ok (.aload_n 0, 1) := by decide +kernel
theorem dX6_status_145 : decode cX6_status 145 = .ok (.getfield 42, 3) := by decide +kernel
theorem dX6_status_148 : decode cX6_status 148 = .ok (.getfield 303, 3) := by decide +kernel
theorem dX6_status_151 : decode cX6_status 151 = .ok (.ireturn, 1) := by decide +kernel
theorem dX6_status_152 : decode cX6_status 152 = .ok (.iconst (-1), 1) := by decide +kernel
theorem dX6_status_153 : decode cX6_status 153 = .ok (.ireturn, 1) := by decide +kernel
theorem dX6_refuse_0 : decode cX6_refuse 0 = .ok (.iload_n 2, 1) := by decide +kernel
theorem dX6_refuse_1 : decode cX6_refuse 1 = .ok (.ifCond .lt 22, 3) := by decide +kernel
theorem dX6_refuse_4 : decode cX6_refuse 4 = .ok (.iload_n 2, 1) := by decide +kernel
theorem dX6_refuse_5 : decode cX6_refuse 5 = .ok (.aload_n 0, 1) := by decide +kernel
theorem dX6_refuse_6 : decode cX6_refuse 6 = .ok (.getfield 28, 3) := by decide +kernel
theorem dX6_refuse_9 : decode cX6_refuse 9 = .ok (.arraylength, 1) := by decide +kernel
theorem dX6_refuse_10 : decode cX6_refuse 10 = .ok (.if_icmp .ge 13, 3) := by decide +kernel
theorem dX6_refuse_13 : decode cX6_refuse 13 = .ok (.aload_n 0, 1) := by decide +kernel
theorem dX6_refuse_14 : decode cX6_refuse 14 = .ok (.getfield 28, 3) := by decide +kernel
theorem dX6_refuse_17 : decode cX6_refuse 17 = .ok (.iload_n 2, 1) := by decide +kernel
theorem dX6_refuse_18 : decode cX6_refuse 18 = .ok (.dup2, 1) := by decide +kernel
theorem dX6_refuse_19 : decode cX6_refuse 19 = .ok (.iaload, 1) := by decide +kernel
theorem dX6_refuse_20 : decode cX6_refuse 20 = .ok (.iconst 1, 1) := by decide +kernel
theorem dX6_refuse_21 : decode cX6_refuse 21 = .ok (.iadd, 1) := by decide +kernel
theorem dX6_refuse_22 : decode cX6_refuse 22 = .ok (.iastore, 1) := by decide +kernel
theorem dX6_refuse_23 : decode cX6_refuse 23 = .ok (.iload_n 1, 1) := by decide +kernel
theorem dX6_refuse_24 : decode cX6_refuse 24 = .ok (.ineg, 1) := by decide +kernel
theorem dX6_refuse_25 : decode cX6_refuse 25 = .ok (.iload_n 2, 1) := by decide +kernel
theorem dX6_refuse_26 : decode cX6_refuse 26 = .ok (.isub, 1) := by decide +kernel
theorem dX6_refuse_27 : decode cX6_refuse 27 = .ok (.ireturn, 1) := by decide +kernel
theorem dX6_shelfAt_0 : decode cX6_shelfAt 0 = .ok (.iload_n 1, 1) := by decide +kernel
theorem dX6_shelfAt_1 : decode cX6_shelfAt 1 = .ok (.ifCond .lt 21, 3) := by decide +kernel
theorem dX6_shelfAt_4 : decode cX6_shelfAt 4 = .ok (.iload_n 1, 1) := by decide +kernel
theorem dX6_shelfAt_5 : decode cX6_shelfAt 5 = .ok (.aload_n 0, 1) := by decide +kernel
theorem dX6_shelfAt_6 : decode cX6_shelfAt 6 = .ok (.getfield 24, 3) := by decide +kernel
theorem dX6_shelfAt_9 : decode cX6_shelfAt 9 = .ok (.arraylength, 1) := by decide +kernel
theorem dX6_shelfAt_10 : decode cX6_shelfAt 10 = .ok (.if_icmp .ge 12, 3) := by decide +kernel
theorem dX6_shelfAt_13 : decode cX6_shelfAt 13 = .ok (.aload_n 0, 1) := by decide +kernel
theorem dX6_shelfAt_14 : decode cX6_shelfAt 14 = .ok (.getfield 24, 3) := by decide +kernel
theorem dX6_shelfAt_17 : decode cX6_shelfAt 17 = .ok (.iload_n 1, 1) := by decide +kernel
theorem dX6_shelfAt_18 : decode cX6_shelfAt 18 = .ok (.aaload, 1) := by decide +kernel
theorem dX6_shelfAt_19 : decode cX6_shelfAt 19 = .ok (.goto 4, 3) := by decide +kernel
theorem dX6_shelfAt_22 : decode cX6_shelfAt 22 = .ok (.aconst_null, 1) := by decide +kernel
theorem dX6_shelfAt_23 : decode cX6_shelfAt 23 = .ok (.areturn, 1) := by decide +kernel
theorem dX6_noRow_0 : decode cX6_noRow 0 = .ok (.aload_n 0, 1) := by decide +kernel
theorem dX6_noRow_1 : decode cX6_noRow 1 = .ok (.iload_n 1, 1) := by decide +kernel
theorem dX6_noRow_2 : decode cX6_noRow 2 = .ok (.invokevirtual 47, 3) := by decide +kernel
theorem dX6_noRow_5 : decode cX6_noRow 5 = .ok (.astore_n 2, 1) := by decide +kernel
theorem dX6_noRow_6 : decode cX6_noRow 6 = .ok (.aload_n 2, 1) := by decide +kernel
theorem dX6_noRow_7 : decode cX6_noRow 7 = .ok (.ifnonnull 5, 3) := by decide +kernel
theorem dX6_noRow_10 : decode cX6_noRow 10 = .ok (.iconst 1, 1) := by decide +kernel
theorem dX6_noRow_11 : decode cX6_noRow 11 = .ok (.ireturn, 1) := by decide +kernel
theorem dX6_noRow_12 : decode cX6_noRow 12 = .ok (.aload_n 2, 1) := by decide +kernel
theorem dX6_noRow_13 : decode cX6_noRow 13 = .ok (.invokevirtual 71, 3) := by decide +kernel
theorem dX6_noRow_16 : decode cX6_noRow 16 = .ok (.ifCond .eq 5, 3) := by decide +kernel
theorem dX6_noRow_19 : decode cX6_noRow 19 = .ok (.iconst 2, 1) := by decide +kernel
theorem dX6_noRow_20 : decode cX6_noRow 20 = .ok (.ireturn, 1) := by decide +kernel
theorem dX6_noRow_21 : decode cX6_noRow 21 = .ok (.aload_n 2, 1) := by decide +kernel
theorem dX6_noRow_22 : decode cX6_noRow 22 = .ok (.invokevirtual 79, 3) := by decide +kernel
theorem dX6_noRow_25 : decode cX6_noRow 25 = .ok (.ifCond .eq 7, 3) := by decide +kernel
theorem dX6_noRow_28 : decode cX6_noRow 28 = .ok (.iconst 0, 1) := by decide +kernel
theorem dX6_noRow_29 : decode cX6_noRow 29 = .ok (.goto 4, 3) := by decide +kernel
theorem dX6_noRow_32 : decode cX6_noRow 32 = .ok (.iconst 3, 1) := by decide +kernel
theorem dX6_noRow_33 : decode cX6_noRow 33 = .ok (.ireturn, 1) := by decide +kernel
theorem dX6_isOutside_0 : decode cX6_isOutside 0 = .ok (.iload_n 0, 1) := by decide +kernel
theorem dX6_isOutside_1 : decode cX6_isOutside 1 = .ok (.iload_n 1, 1) := by decide +kernel
theorem dX6_isOutside_2 : decode cX6_isOutside 2 = .ok (.if_icmp .lt 8, 3) := by decide +kernel
theorem dX6_isOutside_5 : decode cX6_isOutside 5 = .ok (.iload_n 0, 1) := by decide +kernel
theorem dX6_isOutside_6 : decode cX6_isOutside 6 = .ok (.iload_n 2, 1) := by decide +kernel
theorem dX6_isOutside_7 : decode cX6_isOutside 7 = .ok (.if_icmp .le 7, 3) := by decide +kernel
theorem dX6_isOutside_10 : decode cX6_isOutside 10 = .ok (.iconst 1, 1) := by decide +kernel
theorem dX6_isOutside_11 : decode cX6_isOutside 11 = .ok (.goto 4, 3) := by decide +kernel
theorem dX6_isOutside_14 : decode cX6_isOutside 14 = .ok (.iconst 0, 1) := by decide +kernel
theorem dX6_isOutside_15 : decode cX6_isOutside 15 = .ok (.ireturn, 1) := by decide +kernel
theorem dX6_mostToTell_0 : decode cX6_mostToTell 0 = .ok (.iload_n 0, 1) := by decide +kernel
theorem dX6_mostToTell_1 : decode cX6_mostToTell 1 = .ok (.tableswitch 42 0 3 #[31, 33, 36, 39], 31) := by decide +kernel
theorem dX6_mostToTell_32 : decode cX6_mostToTell 32 = .ok (.iconst 1, 1) := by decide +kernel
theorem dX6_mostToTell_33 : decode cX6_mostToTell 33 = .ok (.ireturn, 1) := by decide +kernel
theorem dX6_mostToTell_34 : decode cX6_mostToTell 34 = .ok (.bipush 99, 2) := by decide +kernel
theorem dX6_mostToTell_36 : decode cX6_mostToTell 36 = .ok (.ireturn, 1) := by decide +kernel
theorem dX6_mostToTell_37 : decode cX6_mostToTell 37 = .ok (.bipush 20, 2) := by decide +kernel
theorem dX6_mostToTell_39 : decode cX6_mostToTell 39 = .ok (.ireturn, 1) := by decide +kernel
theorem dX6_mostToTell_40 : decode cX6_mostToTell 40 = .ok (.bipush 99, 2) := by decide +kernel
theorem dX6_mostToTell_42 : decode cX6_mostToTell 42 = .ok (.ireturn, 1) := by decide +kernel
theorem dX6_mostToTell_43 : decode cX6_mostToTell 43 = .ok (.iconst (-1), 1) := by decide +kernel
theorem dX6_mostToTell_44 : decode cX6_mostToTell 44 = .ok (.ireturn, 1) := by decide +kernel
theorem dX6_kindAbove_0 : decode cX6_kindAbove 0 = .ok (.iload_n 0, 1) := by decide +kernel
theorem dX6_kindAbove_1 : decode cX6_kindAbove 1 = .ok (.ifCond .lt 19, 3) := by decide +kernel
theorem dX6_kindAbove_4 : decode cX6_kindAbove 4 = .ok (.iload_n 0, 1) := by decide +kernel
theorem dX6_kindAbove_5 : decode cX6_kindAbove 5 = .ok (.getstatic 306, 3) := by decide +kernel
theorem dX6_kindAbove_8 : decode cX6_kindAbove 8 = .ok (.arraylength, 1) := by decide +kernel
theorem dX6_kindAbove_9 : decode cX6_kindAbove 9 = .ok (.if_icmp .ge 11, 3) := by decide +kernel
theorem dX6_kindAbove_12 : decode cX6_kindAbove 12 = .ok (.getstatic 306, 3) := by decide +kernel
theorem dX6_kindAbove_15 : decode cX6_kindAbove 15 = .ok (.iload_n 0, 1) := by decide +kernel
theorem dX6_kindAbove_16 : decode cX6_kindAbove 16 = .ok (.iaload, 1) := by decide +kernel
theorem dX6_kindAbove_17 : decode cX6_kindAbove 17 = .ok (.goto 4, 3) := by decide +kernel
theorem dX6_kindAbove_20 : decode cX6_kindAbove 20 = .ok (.iconst (-1), 1) := by decide +kernel
theorem dX6_kindAbove_21 : decode cX6_kindAbove 21 = .ok (.ireturn, 1) := by decide +kernel
theorem dX6_isUnder_0 : decode cX6_isUnder 0 = .ok (.iload_n 0, 1) := by decide +kernel
theorem dX6_isUnder_1 : decode cX6_isUnder 1 = .ok (.istore_n 2, 1) := by decide +kernel
theorem dX6_isUnder_2 : decode cX6_isUnder 2 = .ok (.iconst 0, 1) := by decide +kernel
theorem dX6_isUnder_3 : decode cX6_isUnder 3 = .ok (.istore_n 3, 1) := by decide +kernel
theorem dX6_isUnder_4 : decode cX6_isUnder 4 = .ok (.iload_n 3, 1) := by decide +kernel
theorem dX6_isUnder_5 : decode cX6_isUnder 5 = .ok (.bipush 7, 2) := by decide +kernel
theorem dX6_isUnder_7 : decode cX6_isUnder 7 = .ok (.if_icmp .ge 26, 3) := by decide +kernel
theorem dX6_isUnder_10 : decode cX6_isUnder 10 = .ok (.iload_n 2, 1) := by decide +kernel
theorem dX6_isUnder_11 : decode cX6_isUnder 11 = .ok (.iconst (-1), 1) := by decide +kernel
theorem dX6_isUnder_12 : decode cX6_isUnder 12 = .ok (.if_icmp .eq 21, 3) := by decide +kernel
theorem dX6_isUnder_15 : decode cX6_isUnder 15 = .ok (.iload_n 2, 1) := by decide +kernel
theorem dX6_isUnder_16 : decode cX6_isUnder 16 = .ok (.iload_n 1, 1) := by decide +kernel
theorem dX6_isUnder_17 : decode cX6_isUnder 17 = .ok (.if_icmp .ne 5, 3) := by decide +kernel
theorem dX6_isUnder_20 : decode cX6_isUnder 20 = .ok (.iconst 1, 1) := by decide +kernel
theorem dX6_isUnder_21 : decode cX6_isUnder 21 = .ok (.ireturn, 1) := by decide +kernel
theorem dX6_isUnder_22 : decode cX6_isUnder 22 = .ok (.iload_n 2, 1) := by decide +kernel
theorem dX6_isUnder_23 : decode cX6_isUnder 23 = .ok (.invokestatic 309, 3) := by decide +kernel
theorem dX6_isUnder_26 : decode cX6_isUnder 26 = .ok (.istore_n 2, 1) := by decide +kernel
theorem dX6_isUnder_27 : decode cX6_isUnder 27 = .ok (.iinc 3 1, 3) := by decide +kernel
theorem dX6_isUnder_30 : decode cX6_isUnder 30 = .ok (.goto (-26), 3) := by decide +kernel
theorem dX6_isUnder_33 : decode cX6_isUnder 33 = .ok (.iconst 0, 1) := by decide +kernel
theorem dX6_isUnder_34 : decode cX6_isUnder 34 = .ok (.ireturn, 1) := by decide +kernel
