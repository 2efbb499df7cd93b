/-! decode rows -/
theorem dX0_init_0 : decode cX0_init 0 = .ok (.aload_n 0, 1) := by decide +kernel
theorem dX0_init_1 : decode cX0_init 1 = .ok (.invokespecial 3, 3) := by decide +kernel
theorem dX0_init_4 : decode cX0_init 4 = .ok (.aload_n 0, 1) := by decide +kernel
theorem dX0_init_5 : decode cX0_init 5 = .ok (.iconst (-1), 1) := by decide +kernel
theorem dX0_init_6 : decode cX0_init 6 = .ok (.putfield 9, 3) := by decide +kernel
theorem dX0_init_9 : decode cX0_init 9 = .ok (.aload_n 0, 1) := by decide +kernel
theorem dX0_init_10 : decode cX0_init 10 = .ok (.iconst (-1), 1) := by decide +kernel
theorem dX0_init_11 : decode cX0_init 11 = .ok (.putfield 15, 3) := by decide +kernel
theorem dX0_init_14 : decode cX0_init 14 = .ok (.aload_n 0, 1) := by decide +kernel
theorem dX0_init_15 : decode cX0_init 15 = .ok (.iconst (-1), 1) := by decide +kernel
theorem dX0_init_16 : decode cX0_init 16 = .ok (.putfield 18, 3) := by decide +kernel
theorem dX0_init_19 : decode cX0_init 19 = .ok (.aload_n 0, 1) := by decide +kernel
theorem dX0_init_20 : decode cX0_init 20 = .ok (.iconst (-1), 1) := by decide +kernel
theorem dX0_init_21 : decode cX0_init 21 = .ok (.putfield 21, 3) := by decide +kernel
theorem dX0_init_24 : decode cX0_init 24 = .ok (.aload_n 0, 1) := by decide +kernel
theorem dX0_init_25 : decode cX0_init 25 = .ok (.iconst (-1), 1) := by decide +kernel
theorem dX0_init_26 : decode cX0_init 26 = .ok (.putfield 24, 3) := by decide +kernel
theorem dX0_init_29 : decode cX0_init 29 = .ok (.aload_n 0, 1) := by decide +kernel
theorem dX0_init_30 : decode cX0_init 30 = .ok (.iload_n 1, 1) := by decide +kernel
theorem dX0_init_31 : decode cX0_init 31 = .ok (.putfield 27, 3) := by decide +kernel
theorem dX0_init_34 : decode cX0_init 34 = .ok (.return_, 1) := by decide +kernel
theorem dX0_become_0 : decode cX0_become 0 = .ok (.aload_n 0, 1) := by decide +kernel
theorem dX0_become_1 : decode cX0_become 1 = .ok (.aload_n 1, 1) := by decide +kernel
theorem dX0_become_2 : decode cX0_become 2 = .ok (.getfield 30, 3) := by decide +kernel
theorem dX0_become_5 : decode cX0_become 5 = .ok (.putfield 30, 3) := by decide +kernel
theorem dX0_become_8 : decode cX0_become 8 = .ok (.aload_n 0, 1) := by decide +kernel
theorem dX0_become_9 : decode cX0_become 9 = .ok (.aload_n 1, 1) := by decide +kernel
theorem dX0_become_10 : decode cX0_become 10 = .ok (.getfield 34, 3) := by decide +kernel
theorem dX0_become_13 : decode cX0_become 13 = .ok (.putfield 34, 3) := by decide +kernel
theorem dX0_become_16 : decode cX0_become 16 = .ok (.aload_n 0, 1) := by decide +kernel
theorem dX0_become_17 : decode cX0_become 17 = .ok (.aload_n 1, 1) := by decide +kernel
theorem dX0_become_18 : decode cX0_become 18 = .ok (.getfield 37, 3) := by decide +kernel
theorem dX0_become_21 : decode cX0_become 21 = .ok (.putfield 37, 3) := by decide +kernel
theorem dX0_become_24 : decode cX0_become 24 = .ok (.aload_n 0, 1) := by decide +kernel
theorem dX0_become_25 : decode cX0_become 25 = .ok (.aload_n 1, 1) := by decide +kernel
theorem dX0_become_26 : decode cX0_become 26 = .ok (.getfield 40, 3) := by decide +kernel
theorem dX0_become_29 : decode cX0_become 29 = .ok (.putfield 40, 3) := by decide +kernel
theorem dX0_become_32 : decode cX0_become 32 = .ok (.aload_n 0, 1) := by decide +kernel
theorem dX0_become_33 : decode cX0_become 33 = .ok (.aload_n 1, 1) := by decide +kernel
theorem dX0_become_34 : decode cX0_become 34 = .ok (.getfield 9, 3) := by decide +kernel
theorem dX0_become_37 : decode cX0_become 37 = .ok (.putfield 9, 3) := by decide +kernel
theorem dX0_become_40 : decode cX0_become 40 = .ok (.aload_n 0, 1) := by decide +kernel
theorem dX0_become_41 : decode cX0_become 41 = .ok (.aload_n 1, 1) := by decide +kernel
theorem dX0_become_42 : decode cX0_become 42 = .ok (.getfield 43, 3) := by decide +kernel
theorem dX0_become_45 : decode cX0_become 45 = .ok (.putfield 43, 3) := by decide +kernel
theorem dX0_become_48 : decode cX0_become 48 = .ok (.return_, 1) := by decide +kernel
theorem dX0_arrive_0 : decode cX0_arrive 0 = .ok (.aload_n 0, 1) := by decide +kernel
theorem dX0_arrive_1 : decode cX0_arrive 1 = .ok (.iconst 1, 1) := by decide +kernel
theorem dX0_arrive_2 : decode cX0_arrive 2 = .ok (.putfield 30, 3) := by decide +kernel
theorem dX0_arrive_5 : decode cX0_arrive 5 = .ok (.aload_n 0, 1) := by decide +kernel
theorem dX0_arrive_6 : decode cX0_arrive 6 = .ok (.iconst 0, 1) := by decide +kernel
theorem dX0_arrive_7 : decode cX0_arrive 7 = .ok (.putfield 34, 3) := by decide +kernel
theorem dX0_arrive_10 : decode cX0_arrive 10 = .ok (.aload_n 0, 1) := by decide +kernel
theorem dX0_arrive_11 : decode cX0_arrive 11 = .ok (.iload_n 1, 1) := by decide +kernel
theorem dX0_arrive_12 : decode cX0_arrive 12 = .ok (.putfield 37, 3) := by decide +kernel
theorem dX0_arrive_15 : decode cX0_arrive 15 = .ok (.aload_n 0, 1) := by decide +kernel
theorem dX0_arrive_16 : decode cX0_arrive 16 = .ok (.iload_n 2, 1) := by decide +kernel
theorem dX0_arrive_17 : decode cX0_arrive 17 = .ok (.putfield 40, 3) := by decide +kernel
theorem dX0_arrive_20 : decode cX0_arrive 20 = .ok (.aload_n 0, 1) := by decide +kernel
theorem dX0_arrive_21 : decode cX0_arrive 21 = .ok (.iconst (-1), 1) := by decide +kernel
theorem dX0_arrive_22 : decode cX0_arrive 22 = .ok (.putfield 9, 3) := by decide +kernel
theorem dX0_arrive_25 : decode cX0_arrive 25 = .ok (.aload_n 0, 1) := by decide +kernel
theorem dX0_arrive_26 : decode cX0_arrive 26 = .ok (.iconst 0, 1) := by decide +kernel
theorem dX0_arrive_27 : decode cX0_arrive 27 = .ok (.putfield 43, 3) := by decide +kernel
theorem dX0_arrive_30 : decode cX0_arrive 30 = .ok (.return_, 1) := by decide +kernel
theorem dX0_comes_0 : decode cX0_comes 0 = .ok (.aload_n 0, 1) := by decide +kernel
theorem dX0_comes_1 : decode cX0_comes 1 = .ok (.getfield 30, 3) := by decide +kernel
theorem dX0_comes_4 : decode cX0_comes 4 = .ok (.ifCond .eq 14, 3) := by decide +kernel
theorem dX0_comes_7 : decode cX0_comes 7 = .ok (.aload_n 0, 1) := by decide +kernel
theorem dX0_comes_8 : decode cX0_comes 8 = .ok (.getfield 34, 3) := by decide +kernel
theorem dX0_comes_11 : decode cX0_comes 11 = .ok (.ifCond .ne 7, 3) := by decide +kernel
theorem dX0_comes_14 : decode cX0_comes 14 = .ok (.iconst 1, 1) := by decide +kernel
theorem dX0_comes_15 : decode cX0_comes 15 = .ok (.goto 4, 3) := by decide +kernel
theorem dX0_comes_18 : decode cX0_comes 18 = .ok (.iconst 0, 1) := by decide +kernel
theorem dX0_comes_19 : decode cX0_comes 19 = .ok (.ireturn, 1) := by decide +kernel
theorem dX0_endMorning_0 : decode cX0_endMorning 0 = .ok (.aload_n 0, 1) := by decide +kernel
theorem dX0_endMorning_1 : decode cX0_endMorning 1 = .ok (.invokevirtual 46, 3) := by decide +kernel
theorem dX0_endMorning_4 : decode cX0_endMorning 4 = .ok (.ifCond .ne 4, 3) := by decide +kernel
theorem dX0_endMorning_7 : decode cX0_endMorning 7 = .ok (.return_, 1) := by decide +kernel
theorem dX0_endMorning_8 : decode cX0_endMorning 8 = .ok (.aload_n 0, 1) := by decide +kernel
theorem dX0_endMorning_9 : decode cX0_endMorning 9 = .ok (.getfield 15, 3) := by decide +kernel
theorem dX0_endMorning_12 : decode cX0_endMorning 12 = .ok (.iconst (-1), 1) := by decide +kernel
theorem dX0_endMorning_13 : decode cX0_endMorning 13 = .ok (.if_icmp .eq 11, 3) := by decide +kernel
theorem dX0_endMorning_16 : decode cX0_endMorning 16 = .ok (.aload_n 0, 1) := by decide +kernel
theorem dX0_endMorning_17 : decode cX0_endMorning 17 = .ok (.aload_n 0, 1) := by decide +kernel
theorem dX0_endMorning_18 : decode cX0_endMorning 18 = .ok (.getfield 15, 3) := by decide +kernel
theorem dX0_endMorning_21 : decode cX0_endMorning 21 = .ok (.putfield 9, 3) := by decide +kernel
theorem dX0_endMorning_24 : decode cX0_endMorning 24 = .ok (.aload_n 0, 1) := by decide +kernel
theorem dX0_endMorning_25 : decode cX0_endMorning 25 = .ok (.aload_n 0, 1) := by decide +kernel
theorem dX0_endMorning_26 : decode cX0_endMorning 26 = .ok (.getfield 50, 3) := by decide +kernel
theorem dX0_endMorning_29 : decode cX0_endMorning 29 = .ok (.ifCond .eq 7, 3) := by decide +kernel
theorem dX0_endMorning_32 : decode cX0_endMorning 32 = .ok (.iconst 0, 1) := by decide +kernel
theorem dX0_endMorning_33 : decode cX0_endMorning 33 = .ok (.goto 14, 3) := by decide +kernel
theorem dX0_endMorning_36 : decode cX0_endMorning 36 = .ok (.bipush 99, 2) := by decide +kernel
theorem dX0_endMorning_38 : decode cX0_endMorning 38 = .ok (.aload_n 0, 1) := by decide +kernel
theorem dX0_endMorning_39 : decode cX0_endMorning 39 = .ok (.getfield 43, 3) := by decide +kernel
theorem dX0_endMorning_42 : decode cX0_endMorning 42 = .ok (.iconst 1, 1) := by decide +kernel
theorem dX0_endMorning_43 : decode cX0_endMorning 43 = .ok (.iadd, 1) := by decide +kernel
theorem dX0_endMorning_44 : decode cX0_endMorning 44 = .ok (.invokestatic 53, 3) := by decide +kernel
theorem dX0_endMorning_47 : decode cX0_endMorning 47 = .ok (.putfield 43, 3) := by decide +kernel
theorem dX0_endMorning_50 : decode cX0_endMorning 50 = .ok (.return_, 1) := by decide +kernel
