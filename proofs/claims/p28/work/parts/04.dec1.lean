/-! decode rows -/
theorem dX0_init_0 : decode cX0_init 0 = .ok (.aload_n 0, 1) := by decide +kernel
theorem dX0_init_1 : decode cX0_init 1 = .ok (.invokespecial 3, 3) := by decide +kernel
theorem dX0_init_4 : decode cX0_init 4 = .ok (.aload_n 0, 1) := by decide +kernel
theorem dX0_init_5 : decode cX0_init 5 = .ok (.aload_n 1, 1) := by decide +kernel
theorem dX0_init_6 : decode cX0_init 6 = .ok (.putfield 9, 3) := by decide +kernel
theorem dX0_init_9 : decode cX0_init 9 = .ok (.aload_n 0, 1) := by decide +kernel
theorem dX0_init_10 : decode cX0_init 10 = .ok (.iload_n 2, 1) := by decide +kernel
theorem dX0_init_11 : decode cX0_init 11 = .ok (.putfield 15, 3) := by decide +kernel
theorem dX0_init_14 : decode cX0_init 14 = .ok (.aload_n 0, 1) := by decide +kernel
theorem dX0_init_15 : decode cX0_init 15 = .ok (.iload_n 3, 1) := by decide +kernel
theorem dX0_init_16 : decode cX0_init 16 = .ok (.putfield 19, 3) := by decide +kernel
theorem dX0_init_19 : decode cX0_init 19 = .ok (.return_, 1) := by decide +kernel
theorem dX0_walk_0 : decode cX0_walk 0 = .ok (.aload_n 0, 1) := by decide +kernel
theorem dX0_walk_1 : decode cX0_walk 1 = .ok (.getfield 9, 3) := by decide +kernel
theorem dX0_walk_4 : decode cX0_walk 4 = .ok (.astore_n 1, 1) := by decide +kernel
theorem dX0_walk_5 : decode cX0_walk 5 = .ok (.aload_n 1, 1) := by decide +kernel
theorem dX0_walk_6 : decode cX0_walk 6 = .ok (.ifnull 37, 3) := by decide +kernel
theorem dX0_walk_9 : decode cX0_walk 9 = .ok (.aload_n 0, 1) := by decide +kernel
theorem dX0_walk_10 : decode cX0_walk 10 = .ok (.aload_n 1, 1) := by decide +kernel
theorem dX0_walk_11 : decode cX0_walk 11 = .ok (.putfield 9, 3) := by decide +kernel
theorem dX0_walk_14 : decode cX0_walk 14 = .ok (.aload_n 1, 1) := by decide +kernel
theorem dX0_walk_15 : decode cX0_walk 15 = .ok (.aload_n 0, 1) := by decide +kernel
theorem dX0_walk_16 : decode cX0_walk 16 = .ok (.getfield 15, 3) := by decide +kernel
theorem dX0_walk_19 : decode cX0_walk 19 = .ok (.invokevirtual 22, 3) := by decide +kernel
theorem dX0_walk_22 : decode cX0_walk 22 = .ok (.istore_n 2, 1) := by decide +kernel
theorem dX0_walk_23 : decode cX0_walk 23 = .ok (.iload_n 2, 1) := by decide +kernel
theorem dX0_walk_24 : decode cX0_walk 24 = .ok (.iconst (-1), 1) := by decide +kernel
theorem dX0_walk_25 : decode cX0_walk 25 = .ok (.if_icmp .eq 10, 3) := by decide +kernel
theorem dX0_walk_28 : decode cX0_walk 28 = .ok (.aload_n 0, 1) := by decide +kernel
theorem dX0_walk_29 : decode cX0_walk 29 = .ok (.iload_n 2, 1) := by decide +kernel
theorem dX0_walk_30 : decode cX0_walk 30 = .ok (.putfield 15, 3) := by decide +kernel
theorem dX0_walk_33 : decode cX0_walk 33 = .ok (.iload_n 2, 1) := by decide +kernel
theorem dX0_walk_34 : decode cX0_walk 34 = .ok (.ireturn, 1) := by decide +kernel
theorem dX0_walk_35 : decode cX0_walk 35 = .ok (.aload_n 1, 1) := by decide +kernel
theorem dX0_walk_36 : decode cX0_walk 36 = .ok (.getfield 28, 3) := by decide +kernel
theorem dX0_walk_39 : decode cX0_walk 39 = .ok (.astore_n 1, 1) := by decide +kernel
theorem dX0_walk_40 : decode cX0_walk 40 = .ok (.goto (-35), 3) := by decide +kernel
theorem dX0_walk_43 : decode cX0_walk 43 = .ok (.iconst (-1), 1) := by decide +kernel
theorem dX0_walk_44 : decode cX0_walk 44 = .ok (.ireturn, 1) := by decide +kernel
theorem dX1_init_0 : decode cX1_init 0 = .ok (.aload_n 0, 1) := by decide +kernel
theorem dX1_init_1 : decode cX1_init 1 = .ok (.invokespecial 3, 3) := by decide +kernel
theorem dX1_init_4 : decode cX1_init 4 = .ok (.aload_n 0, 1) := by decide +kernel
theorem dX1_init_5 : decode cX1_init 5 = .ok (.iconst 5, 1) := by decide +kernel
theorem dX1_init_6 : decode cX1_init 6 = .ok (.newarray .int, 2) := by decide +kernel
theorem dX1_init_8 : decode cX1_init 8 = .ok (.putfield 11, 3) := by decide +kernel
theorem dX1_init_11 : decode cX1_init 11 = .ok (.aload_n 0, 1) := by decide +kernel
theorem dX1_init_12 : decode cX1_init 12 = .ok (.iconst 5, 1) := by decide +kernel
theorem dX1_init_13 : decode cX1_init 13 = .ok (.newarray .int, 2) := by decide +kernel
theorem dX1_init_15 : decode cX1_init 15 = .ok (.putfield 15, 3) := by decide +kernel
theorem dX1_init_18 : decode cX1_init 18 = .ok (.aload_n 0, 1) := by decide +kernel
theorem dX1_init_19 : decode cX1_init 19 = .ok (.iconst 5, 1) := by decide +kernel
theorem dX1_init_20 : decode cX1_init 20 = .ok (.anewarray 9, 3) := by decide +kernel
theorem dX1_init_23 : decode cX1_init 23 = .ok (.putfield 18, 3) := by decide +kernel
theorem dX1_init_26 : decode cX1_init 26 = .ok (.aload_n 0, 1) := by decide +kernel
theorem dX1_init_27 : decode cX1_init 27 = .ok (.iload_n 1, 1) := by decide +kernel
theorem dX1_init_28 : decode cX1_init 28 = .ok (.putfield 22, 3) := by decide +kernel
theorem dX1_init_31 : decode cX1_init 31 = .ok (.aload_n 0, 1) := by decide +kernel
theorem dX1_init_32 : decode cX1_init 32 = .ok (.iload_n 2, 1) := by decide +kernel
theorem dX1_init_33 : decode cX1_init 33 = .ok (.putfield 26, 3) := by decide +kernel
theorem dX1_init_36 : decode cX1_init 36 = .ok (.aload_n 0, 1) := by decide +kernel
theorem dX1_init_37 : decode cX1_init 37 = .ok (.iload_n 3, 1) := by decide +kernel
theorem dX1_init_38 : decode cX1_init 38 = .ok (.putfield 29, 3) := by decide +kernel
theorem dX1_init_41 : decode cX1_init 41 = .ok (.aload_n 0, 1) := by decide +kernel
theorem dX1_init_42 : decode cX1_init 42 = .ok (.iload 4, 2) := by decide +kernel
theorem dX1_init_44 : decode cX1_init 44 = .ok (.putfield 32, 3) := by decide +kernel
theorem dX1_init_47 : decode cX1_init 47 = .ok (.return_, 1) := by decide +kernel
theorem dX1_has_0 : decode cX1_has 0 = .ok (.iload_n 1, 1) := by decide +kernel
theorem dX1_has_1 : decode cX1_has 1 = .ok (.ifCond .lt 20, 3) := by decide +kernel
theorem dX1_has_4 : decode cX1_has 4 = .ok (.iload_n 1, 1) := by decide +kernel
theorem dX1_has_5 : decode cX1_has 5 = .ok (.aload_n 0, 1) := by decide +kernel
theorem dX1_has_6 : decode cX1_has 6 = .ok (.getfield 35, 3) := by decide +kernel
theorem dX1_has_9 : decode cX1_has 9 = .ok (.if_icmp .ge 12, 3) := by decide +kernel
theorem dX1_has_12 : decode cX1_has 12 = .ok (.iload_n 1, 1) := by decide +kernel
theorem dX1_has_13 : decode cX1_has 13 = .ok (.iconst 5, 1) := by decide +kernel
theorem dX1_has_14 : decode cX1_has 14 = .ok (.if_icmp .ge 7, 3) := by decide +kernel
theorem dX1_has_17 : decode cX1_has 17 = .ok (.iconst 1, 1) := by decide +kernel
theorem dX1_has_18 : decode cX1_has 18 = .ok (.goto 4, 3) := by decide +kernel
theorem dX1_has_21 : decode cX1_has 21 = .ok (.iconst 0, 1) := by decide +kernel
theorem dX1_has_22 : decode cX1_has 22 = .ok (.ireturn, 1) := by decide +kernel
theorem dX1_keyIn_0 : decode cX1_keyIn 0 = .ok (.aload_n 0, 1) := by decide +kernel
theorem dX1_keyIn_1 : decode cX1_keyIn 1 = .ok (.iload_n 1, 1) := by decide +kernel
theorem dX1_keyIn_2 : decode cX1_keyIn 2 = .ok (.invokevirtual 38, 3) := by decide +kernel
theorem dX1_keyIn_5 : decode cX1_keyIn 5 = .ok (.ifCond .eq 12, 3) := by decide +kernel
theorem dX1_keyIn_8 : decode cX1_keyIn 8 = .ok (.aload_n 0, 1) := by decide +kernel
theorem dX1_keyIn_9 : decode cX1_keyIn 9 = .ok (.getfield 11, 3) := by decide +kernel
theorem dX1_keyIn_12 : decode cX1_keyIn 12 = .ok (.iload_n 1, 1) := by decide +kernel
theorem dX1_keyIn_13 : decode cX1_keyIn 13 = .ok (.iaload, 1) := by decide +kernel
theorem dX1_keyIn_14 : decode cX1_keyIn 14 = .ok (.goto 4, 3) := by decide +kernel
theorem dX1_keyIn_17 : decode cX1_keyIn 17 = .ok (.iconst (-1), 1) := by decide +kernel
theorem dX1_keyIn_18 : decode cX1_keyIn 18 = .ok (.ireturn, 1) := by decide +kernel
theorem dX1_valueIn_0 : decode cX1_valueIn 0 = .ok (.aload_n 0, 1) := by decide +kernel
theorem dX1_valueIn_1 : decode cX1_valueIn 1 = .ok (.iload_n 1, 1) := by decide +kernel
theorem dX1_valueIn_2 : decode cX1_valueIn 2 = .ok (.invokevirtual 38, 3) := by decide +kernel
theorem dX1_valueIn_5 : decode cX1_valueIn 5 = .ok (.ifCond .eq 12, 3) := by decide +kernel
theorem dX1_valueIn_8 : decode cX1_valueIn 8 = .ok (.aload_n 0, 1) := by decide +kernel
theorem dX1_valueIn_9 : decode cX1_valueIn 9 = .ok (.getfield 15, 3) := by decide +kernel
theorem dX1_valueIn_12 : decode cX1_valueIn 12 = .ok (.iload_n 1, 1) := by decide +kernel
theorem dX1_valueIn_13 : decode cX1_valueIn 13 = .ok (.iaload, 1) := by decide +kernel
theorem dX1_valueIn_14 : decode cX1_valueIn 14 = .ok (.goto 4, 3) := by decide +kernel
theorem dX1_valueIn_17 : decode cX1_valueIn 17 = .ok (.iconst (-1), 1) := by decide +kernel
theorem dX1_valueIn_18 : decode cX1_valueIn 18 = .ok (.ireturn, 1) := by decide +kernel
theorem dX1_pageIn_0 : decode cX1_pageIn 0 = .ok (.aload_n 0, 1) := by decide +kernel
theorem dX1_pageIn_1 : decode cX1_pageIn 1 = .ok (.iload_n 1, 1) := by decide +kernel
theorem dX1_pageIn_2 : decode cX1_pageIn 2 = .ok (.invokevirtual 38, 3) := by decide +kernel
theorem dX1_pageIn_5 : decode cX1_pageIn 5 = .ok (.ifCond .eq 12, 3) := by decide +kernel
theorem dX1_pageIn_8 : decode cX1_pageIn 8 = .ok (.aload_n 0, 1) := by decide +kernel
theorem dX1_pageIn_9 : decode cX1_pageIn 9 = .ok (.getfield 18, 3) := by decide +kernel
theorem dX1_pageIn_12 : decode cX1_pageIn 12 = .ok (.iload_n 1, 1) := by decide +kernel
theorem dX1_pageIn_13 : decode cX1_pageIn 13 = .ok (.aaload, 1) := by decide +kernel
theorem dX1_pageIn_14 : decode cX1_pageIn 14 = .ok (.goto 4, 3) := by decide +kernel
theorem dX1_pageIn_17 : decode cX1_pageIn 17 = .ok (.aconst_null, 1) := by decide +kernel
theorem dX1_pageIn_18 : decode cX1_pageIn 18 = .ok (.areturn, 1) := by decide +kernel
theorem dX1_countLess_0 : decode cX1_countLess 0 = .ok (.iconst 0, 1) := by decide +kernel
theorem dX1_countLess_1 : decode cX1_countLess 1 = .ok (.istore_n 2, 1) := by decide +kernel
theorem dX1_countLess_2 : decode cX1_countLess 2 = .ok (.iload_n 2, 1) := by decide +kernel
theorem dX1_countLess_3 : decode cX1_countLess 3 = .ok (.aload_n 0, 1) := by decide +kernel
theorem dX1_countLess_4 : decode cX1_countLess 4 = .ok (.getfield 35, 3) := by decide +kernel
theorem dX1_countLess_7 : decode cX1_countLess 7 = .ok (.if_icmp .ge 24, 3) := by decide +kernel
theorem dX1_countLess_10 : decode cX1_countLess 10 = .ok (.iload_n 2, 1) := by decide +kernel
theorem dX1_countLess_11 : decode cX1_countLess 11 = .ok (.iconst 5, 1) := by decide +kernel
theorem dX1_countLess_12 : decode cX1_countLess 12 = .ok (.if_icmp .ge 19, 3) := by decide +kernel
theorem dX1_countLess_15 : decode cX1_countLess 15 = .ok (.aload_n 0, 1) := by decide +kernel
theorem dX1_countLess_16 : decode cX1_countLess 16 = .ok (.getfield 11, 3) := by decide +kernel
theorem dX1_countLess_19 : decode cX1_countLess 19 = .ok (.iload_n 2, 1) := by decide +kernel
theorem dX1_countLess_20 : decode cX1_countLess 20 = .ok (.iaload, 1) := by decide +kernel
theorem dX1_countLess_21 : decode cX1_countLess 21 = .ok (.iload_n 1, 1) := by decide +kernel
theorem dX1_countLess_22 : decode cX1_countLess 22 = .ok (.if_icmp .ge 9, 3) := by decide +kernel
theorem dX1_countLess_25 : decode cX1_countLess 25 = .ok (.iinc 2 1, 3) := by decide +kernel
theorem dX1_countLess_28 : decode cX1_countLess 28 = .ok (.goto (-26), 3) := by decide +kernel
theorem dX1_countLess_31 : decode cX1_countLess 31 = .ok (.iload_n 2, 1) := by decide +kernel
theorem dX1_countLess_32 : decode cX1_countLess 32 = .ok (.ireturn, 1) := by decide +kernel
theorem dX1_placeOf_0 : decode cX1_placeOf 0 = .ok (.aload_n 0, 1) := by decide +kernel
theorem dX1_placeOf_1 : decode cX1_placeOf 1 = .ok (.iload_n 1, 1) := by decide +kernel
theorem dX1_placeOf_2 : decode cX1_placeOf 2 = .ok (.invokevirtual 42, 3) := by decide +kernel
theorem dX1_placeOf_5 : decode cX1_placeOf 5 = .ok (.istore_n 2, 1) := by decide +kernel
theorem dX1_placeOf_6 : decode cX1_placeOf 6 = .ok (.aload_n 0, 1) := by decide +kernel
theorem dX1_placeOf_7 : decode cX1_placeOf 7 = .ok (.iload_n 2, 1) := by decide +kernel
theorem dX1_placeOf_8 : decode cX1_placeOf 8 = .ok (.invokevirtual 38, 3) := by decide +kernel
theorem dX1_placeOf_11 : decode cX1_placeOf 11 = .ok (.ifCond .eq 17, 3) := by decide +kernel
theorem dX1_placeOf_14 : decode cX1_placeOf 14 = .ok (.aload_n 0, 1) := by decide +kernel
theorem dX1_placeOf_15 : decode cX1_placeOf 15 = .ok (.getfield 11, 3) := by decide +kernel
theorem dX1_placeOf_18 : decode cX1_placeOf 18 = .ok (.iload_n 2, 1) := by decide +kernel
theorem dX1_placeOf_19 : decode cX1_placeOf 19 = .ok (.iaload, 1) := by decide +kernel
theorem dX1_placeOf_20 : decode cX1_placeOf 20 = .ok (.iload_n 1, 1) := by decide +kernel
theorem dX1_placeOf_21 : decode cX1_placeOf 21 = .ok (.if_icmp .ne 7, 3) := by decide +kernel
theorem dX1_placeOf_24 : decode cX1_placeOf 24 = .ok (.iload_n 2, 1) := by decide +kernel
theorem dX1_placeOf_25 : decode cX1_placeOf 25 = .ok (.goto 4, 3) := by decide +kernel
theorem dX1_placeOf_28 : decode cX1_placeOf 28 = .ok (.iconst (-1), 1) := by decide +kernel
theorem dX1_placeOf_29 : decode cX1_placeOf 29 = .ok (.ireturn, 1) := by decide +kernel
theorem dX1_leastKeyAbove_0 : decode cX1_leastKeyAbove 0 = .ok (.aload_n 0, 1) := by decide +kernel
theorem dX1_leastKeyAbove_1 : decode cX1_leastKeyAbove 1 = .ok (.aload_n 0, 1) := by decide +kernel
theorem dX1_leastKeyAbove_2 : decode cX1_leastKeyAbove 2 = .ok (.iload_n 1, 1) := by decide +kernel
theorem dX1_leastKeyAbove_3 : decode cX1_leastKeyAbove 3 = .ok (.iconst 1, 1) := by decide +kernel
theorem dX1_leastKeyAbove_4 : decode cX1_leastKeyAbove 4 = .ok (.iadd, 1) := by decide +kernel
theorem dX1_leastKeyAbove_5 : decode cX1_leastKeyAbove 5 = .ok (.invokevirtual 42, 3) := by decide +kernel
theorem dX1_leastKeyAbove_8 : decode cX1_leastKeyAbove 8 = .ok (.invokevirtual 46, 3) := by decide +kernel
theorem dX1_leastKeyAbove_11 : decode cX1_leastKeyAbove 11 = .ok (.ireturn, 1) := by decide +kernel
theorem dX1_onward_0 : decode cX1_onward 0 = .ok (.iload_n 1, 1) := by decide +kernel
theorem dX1_onward_1 : decode cX1_onward 1 = .ok (.aload_n 0, 1) := by decide +kernel
theorem dX1_onward_2 : decode cX1_onward 2 = .ok (.getfield 32, 3) := by decide +kernel
theorem dX1_onward_5 : decode cX1_onward 5 = .ok (.if_icmp .lt 8, 3) := by decide +kernel
theorem dX1_onward_8 : decode cX1_onward 8 = .ok (.aload_n 0, 1) := by decide +kernel
theorem dX1_onward_9 : decode cX1_onward 9 = .ok (.getfield 49, 3) := by decide +kernel
theorem dX1_onward_12 : decode cX1_onward 12 = .ok (.areturn, 1) := by decide +kernel
theorem dX1_onward_13 : decode cX1_onward 13 = .ok (.aload_n 0, 1) := by decide +kernel
theorem dX1_onward_14 : decode cX1_onward 14 = .ok (.getfield 26, 3) := by decide +kernel
theorem dX1_onward_17 : decode cX1_onward 17 = .ok (.iload_n 2, 1) := by decide +kernel
theorem dX1_onward_18 : decode cX1_onward 18 = .ok (.if_icmp .le 19, 3) := by decide +kernel
theorem dX1_onward_21 : decode cX1_onward 21 = .ok (.aload_n 0, 1) := by decide +kernel
theorem dX1_onward_22 : decode cX1_onward 22 = .ok (.aload_n 0, 1) := by decide +kernel
theorem dX1_onward_23 : decode cX1_onward 23 = .ok (.iload_n 1, 1) := by decide +kernel
theorem dX1_onward_24 : decode cX1_onward 24 = .ok (.iconst 1, 1) := by decide +kernel
theorem dX1_onward_25 : decode cX1_onward 25 = .ok (.iadd, 1) := by decide +kernel
theorem dX1_onward_26 : decode cX1_onward 26 = .ok (.invokevirtual 42, 3) := by decide +kernel
theorem dX1_onward_29 : decode cX1_onward 29 = .ok (.iconst 1, 1) := by decide +kernel
theorem dX1_onward_30 : decode cX1_onward 30 = .ok (.isub, 1) := by decide +kernel
theorem dX1_onward_31 : decode cX1_onward 31 = .ok (.invokevirtual 53, 3) := by decide +kernel
theorem dX1_onward_34 : decode cX1_onward 34 = .ok (.goto 4, 3) := by decide +kernel
theorem dX1_onward_37 : decode cX1_onward 37 = .ok (.aconst_null, 1) := by decide +kernel
theorem dX1_onward_38 : decode cX1_onward 38 = .ok (.areturn, 1) := by decide +kernel
theorem dX1_changeValue_0 : decode cX1_changeValue 0 = .ok (.aload_n 0, 1) := by decide +kernel
theorem dX1_changeValue_1 : decode cX1_changeValue 1 = .ok (.iload_n 1, 1) := by decide +kernel
theorem dX1_changeValue_2 : decode cX1_changeValue 2 = .ok (.invokevirtual 38, 3) := by decide +kernel
theorem dX1_changeValue_5 : decode cX1_changeValue 5 = .ok (.ifCond .ne 5, 3) := by decide +kernel
theorem dX1_changeValue_8 : decode cX1_changeValue 8 = .ok (.iconst (-1), 1) := by decide +kernel
theorem dX1_changeValue_9 : decode cX1_changeValue 9 = .ok (.ireturn, 1) := by decide +kernel
theorem dX1_changeValue_10 : decode cX1_changeValue 10 = .ok (.aload_n 0, 1) := by decide +kernel
theorem dX1_changeValue_11 : decode cX1_changeValue 11 = .ok (.getfield 15, 3) := by decide +kernel
theorem dX1_changeValue_14 : decode cX1_changeValue 14 = .ok (.iload_n 1, 1) := by decide +kernel
theorem dX1_changeValue_15 : decode cX1_changeValue 15 = .ok (.iaload, 1) := by decide +kernel
theorem dX1_changeValue_16 : decode cX1_changeValue 16 = .ok (.istore_n 3, 1) := by decide +kernel
theorem dX1_changeValue_17 : decode cX1_changeValue 17 = .ok (.aload_n 0, 1) := by decide +kernel
theorem dX1_changeValue_18 : decode cX1_changeValue 18 = .ok (.getfield 15, 3) := by decide +kernel
theorem dX1_changeValue_21 : decode cX1_changeValue 21 = .ok (.iload_n 1, 1) := by decide +kernel
theorem dX1_changeValue_22 : decode cX1_changeValue 22 = .ok (.iload_n 2, 1) := by decide +kernel
theorem dX1_changeValue_23 : decode cX1_changeValue 23 = .ok (.iastore, 1) := by decide +kernel
theorem dX1_changeValue_24 : decode cX1_changeValue 24 = .ok (.iload_n 3, 1) := by decide +kernel
theorem dX1_changeValue_25 : decode cX1_changeValue 25 = .ok (.ireturn, 1) := by decide +kernel
theorem dX1_insert_0 : decode cX1_insert 0 = .ok (.aload_n 0, 1) := by decide +kernel
theorem dX1_insert_1 : decode cX1_insert 1 = .ok (.getfield 35, 3) := by decide +kernel
theorem dX1_insert_4 : decode cX1_insert 4 = .ok (.ifCond .lt 11, 3) := by decide +kernel
theorem dX1_insert_7 : decode cX1_insert 7 = .ok (.aload_n 0, 1) := by decide +kernel
theorem dX1_insert_8 : decode cX1_insert 8 = .ok (.getfield 35, 3) := by decide +kernel
theorem dX1_insert_11 : decode cX1_insert 11 = .ok (.iconst 5, 1) := by decide +kernel
theorem dX1_insert_12 : decode cX1_insert 12 = .ok (.if_icmp .lt 4, 3) := by decide +kernel
theorem dX1_insert_15 : decode cX1_insert 15 = .ok (.return_, 1) := by decide +kernel
theorem dX1_insert_16 : decode cX1_insert 16 = .ok (.aload_n 0, 1) := by decide +kernel
theorem dX1_insert_17 : decode cX1_insert 17 = .ok (.iload_n 1, 1) := by decide +kernel
theorem dX1_insert_18 : decode cX1_insert 18 = .ok (.invokevirtual 42, 3) := by decide +kernel
theorem dX1_insert_21 : decode cX1_insert 21 = .ok (.istore 4, 2) := by decide +kernel
theorem dX1_insert_23 : decode cX1_insert 23 = .ok (.aload_n 0, 1) := by decide +kernel
theorem dX1_insert_24 : decode cX1_insert 24 = .ok (.getfield 35, 3) := by decide +kernel
theorem dX1_insert_27 : decode cX1_insert 27 = .ok (.istore 5, 2) := by decide +kernel
theorem dX1_insert_29 : decode cX1_insert 29 = .ok (.iload 5, 2) := by decide +kernel
theorem dX1_insert_31 : decode cX1_insert 31 = .ok (.iload 4, 2) := by decide +kernel
theorem dX1_insert_33 : decode cX1_insert 33 = .ok (.if_icmp .le 19, 3) := by decide +kernel
theorem dX1_insert_36 : decode cX1_insert 36 = .ok (.aload_n 0, 1) := by decide +kernel
theorem dX1_insert_37 : decode cX1_insert 37 = .ok (.iload 5, 2) := by decide +kernel
theorem dX1_insert_39 : decode cX1_insert 39 = .ok (.iconst 1, 1) := by decide +kernel
theorem dX1_insert_40 : decode cX1_insert 40 = .ok (.isub, 1) := by decide +kernel
theorem dX1_insert_41 : decode cX1_insert 41 = .ok (.iload 5, 2) := by decide +kernel
theorem dX1_insert_43 : decode cX1_insert 43 = .ok (.invokevirtual 57, 3) := by decide +kernel
theorem dX1_insert_46 : decode cX1_insert 46 = .ok (.iinc 5 (-1), 3) := by decide +kernel
theorem dX1_insert_49 : decode cX1_insert 49 = .ok (.goto (-20), 3) := by decide +kernel
theorem dX1_insert_52 : decode cX1_insert 52 = .ok (.aload_n 0, 1) := by decide +kernel
theorem dX1_insert_53 : decode cX1_insert 53 = .ok (.getfield 11, 3) := by decide +kernel
theorem dX1_insert_56 : decode cX1_insert 56 = .ok (.iload 4, 2) := by decide +kernel
theorem dX1_insert_58 : decode cX1_insert 58 = .ok (.iload_n 1, 1) := by decide +kernel
theorem dX1_insert_59 : decode cX1_insert 59 = .ok (.iastore, 1) := by decide +kernel
theorem dX1_insert_60 : decode cX1_insert 60 = .ok (.aload_n 0, 1) := by decide +kernel
theorem dX1_insert_61 : decode cX1_insert 61 = .ok (.getfield 15, 3) := by decide +kernel
theorem dX1_insert_64 : decode cX1_insert 64 = .ok (.iload 4, 2) := by decide +kernel
theorem dX1_insert_66 : decode cX1_insert 66 = .ok (.iload_n 2, 1) := by decide +kernel
theorem dX1_insert_67 : decode cX1_insert 67 = .ok (.iastore, 1) := by decide +kernel
theorem dX1_insert_68 : decode cX1_insert 68 = .ok (.aload_n 0, 1) := by decide +kernel
theorem dX1_insert_69 : decode cX1_insert 69 = .ok (.getfield 18, 3) := by decide +kernel
theorem dX1_insert_72 : decode cX1_insert 72 = .ok (.iload 4, 2) := by decide +kernel
theorem dX1_insert_74 : decode cX1_insert 74 = .ok (.aload_n 3, 1) := by decide +kernel
theorem dX1_insert_75 : decode cX1_insert 75 = .ok (.aastore, 1) := by decide +kernel
theorem dX1_insert_76 : decode cX1_insert 76 = .ok (.aload_n 0, 1) := by decide +kernel
theorem dX1_insert_77 : decode cX1_insert 77 = .ok (.dup, 1) := by decide +kernel
theorem dX1_insert_78 : decode cX1_insert 78 = .ok (.getfield 35, 3) := by decide +kernel
theorem dX1_insert_81 : decode cX1_insert 81 = .ok (.iconst 1, 1) := by decide +kernel
theorem dX1_insert_82 : decode cX1_insert 82 = .ok (.iadd, 1) := by decide +kernel
theorem dX1_insert_83 : decode cX1_insert 83 = .ok (.putfield 35, 3) := by decide +kernel
theorem dX1_insert_86 : decode cX1_insert 86 = .ok (.return_, 1) := by decide +kernel
theorem dX1_removeFrom_0 : decode cX1_removeFrom 0 = .ok (.aload_n 0, 1) := by decide +kernel
theorem dX1_removeFrom_1 : decode cX1_removeFrom 1 = .ok (.iload_n 1, 1) := by decide +kernel
theorem dX1_removeFrom_2 : decode cX1_removeFrom 2 = .ok (.invokevirtual 38, 3) := by decide +kernel
theorem dX1_removeFrom_5 : decode cX1_removeFrom 5 = .ok (.ifCond .ne 4, 3) := by decide +kernel
theorem dX1_removeFrom_8 : decode cX1_removeFrom 8 = .ok (.return_, 1) := by decide +kernel
theorem dX1_removeFrom_9 : decode cX1_removeFrom 9 = .ok (.iload_n 1, 1) := by decide +kernel
theorem dX1_removeFrom_10 : decode cX1_removeFrom 10 = .ok (.istore_n 2, 1) := by decide +kernel
theorem dX1_removeFrom_11 : decode cX1_removeFrom 11 = .ok (.iload_n 2, 1) := by decide +kernel
theorem dX1_removeFrom_12 : decode cX1_removeFrom 12 = .ok (.iconst 1, 1) := by decide +kernel
theorem dX1_removeFrom_13 : decode cX1_removeFrom 13 = .ok (.iadd, 1) := by decide +kernel
theorem dX1_removeFrom_14 : decode cX1_removeFrom 14 = .ok (.aload_n 0, 1) := by decide +kernel
theorem dX1_removeFrom_15 : decode cX1_removeFrom 15 = .ok (.getfield 35, 3) := by decide +kernel
theorem dX1_removeFrom_18 : decode cX1_removeFrom 18 = .ok (.if_icmp .ge 17, 3) := by decide +kernel
theorem dX1_removeFrom_21 : decode cX1_removeFrom 21 = .ok (.aload_n 0, 1) := by decide +kernel
theorem dX1_removeFrom_22 : decode cX1_removeFrom 22 = .ok (.iload_n 2, 1) := by decide +kernel
theorem dX1_removeFrom_23 : decode cX1_removeFrom 23 = .ok (.iconst 1, 1) := by decide +kernel
theorem dX1_removeFrom_24 : decode cX1_removeFrom 24 = .ok (.iadd, 1) := by decide +kernel
theorem dX1_removeFrom_25 : decode cX1_removeFrom 25 = .ok (.iload_n 2, 1) := by decide +kernel
theorem dX1_removeFrom_26 : decode cX1_removeFrom 26 = .ok (.invokevirtual 57, 3) := by decide +kernel
theorem dX1_removeFrom_29 : decode cX1_removeFrom 29 = .ok (.iinc 2 1, 3) := by decide +kernel
theorem dX1_removeFrom_32 : decode cX1_removeFrom 32 = .ok (.goto (-21), 3) := by decide +kernel
theorem dX1_removeFrom_35 : decode cX1_removeFrom 35 = .ok (.aload_n 0, 1) := by decide +kernel
theorem dX1_removeFrom_36 : decode cX1_removeFrom 36 = .ok (.dup, 1) := by decide +kernel
theorem dX1_removeFrom_37 : decode cX1_removeFrom 37 = .ok (.getfield 35, 3) := by decide +kernel
theorem dX1_removeFrom_40 : decode cX1_removeFrom 40 = .ok (.iconst 1, 1) := by decide +kernel
theorem dX1_removeFrom_41 : decode cX1_removeFrom 41 = .ok (.isub, 1) := by decide +kernel
theorem dX1_removeFrom_42 : decode cX1_removeFrom 42 = .ok (.putfield 35, 3) := by decide +kernel
theorem dX1_removeFrom_45 : decode cX1_removeFrom 45 = .ok (.return_, 1) := by decide +kernel
theorem dX1_copy_0 : decode cX1_copy 0 = .ok (.iload_n 1, 1) := by decide +kernel
theorem dX1_copy_1 : decode cX1_copy 1 = .ok (.ifCond .lt 17, 3) := by decide +kernel
theorem dX1_copy_4 : decode cX1_copy 4 = .ok (.iload_n 1, 1) := by decide +kernel
theorem dX1_copy_5 : decode cX1_copy 5 = .ok (.iconst 5, 1) := by decide +kernel
theorem dX1_copy_6 : decode cX1_copy 6 = .ok (.if_icmp .ge 12, 3) := by decide +kernel
theorem dX1_copy_9 : decode cX1_copy 9 = .ok (.iload_n 2, 1) := by decide +kernel
theorem dX1_copy_10 : decode cX1_copy 10 = .ok (.ifCond .lt 8, 3) := by decide +kernel
theorem dX1_copy_13 : decode cX1_copy 13 = .ok (.iload_n 2, 1) := by decide +kernel
theorem dX1_copy_14 : decode cX1_copy 14 = .ok (.iconst 5, 1) := by decide +kernel
theorem dX1_copy_15 : decode cX1_copy 15 = .ok (.if_icmp .lt 4, 3) := by decide +kernel
theorem dX1_copy_18 : decode cX1_copy 18 = .ok (.return_, 1) := by decide +kernel
theorem dX1_copy_19 : decode cX1_copy 19 = .ok (.aload_n 0, 1) := by decide +kernel
theorem dX1_copy_20 : decode cX1_copy 20 = .ok (.getfield 11, 3) := by decide +kernel
theorem dX1_copy_23 : decode cX1_copy 23 = .ok (.iload_n 2, 1) := by decide +kernel
theorem dX1_copy_24 : decode cX1_copy 24 = .ok (.aload_n 0, 1) := by decide +kernel
theorem dX1_copy_25 : decode cX1_copy 25 = .ok (.getfield 11, 3) := by decide +kernel
theorem dX1_copy_28 : decode cX1_copy 28 = .ok (.iload_n 1, 1) := by decide +kernel
theorem dX1_copy_29 : decode cX1_copy 29 = .ok (.iaload, 1) := by decide +kernel
theorem dX1_copy_30 : decode cX1_copy 30 = .ok (.iastore, 1) := by decide +kernel
theorem dX1_copy_31 : decode cX1_copy 31 = .ok (.aload_n 0, 1) := by decide +kernel
theorem dX1_copy_32 : decode cX1_copy 32 = .ok (.getfield 15, 3) := by decide +kernel
theorem dX1_copy_35 : decode cX1_copy 35 = .ok (.iload_n 2, 1) := by decide +kernel
theorem dX1_copy_36 : decode cX1_copy 36 = .ok (.aload_n 0, 1) := by decide +kernel
theorem dX1_copy_37 : decode cX1_copy 37 = .ok (.getfield 15, 3) := by decide +kernel
theorem dX1_copy_40 : decode cX1_copy 40 = .ok (.iload_n 1, 1) := by decide +kernel
theorem dX1_copy_41 : decode cX1_copy 41 = .ok (.iaload, 1) := by decide +kernel
theorem dX1_copy_42 : decode cX1_copy 42 = .ok (.iastore, 1) := by decide +kernel
theorem dX1_copy_43 : decode cX1_copy 43 = .ok (.aload_n 0, 1) := by decide +kernel
theorem dX1_copy_44 : decode cX1_copy 44 = .ok (.getfield 18, 3) := by decide +kernel
theorem dX1_copy_47 : decode cX1_copy 47 = .ok (.iload_n 2, 1) := by decide +kernel
theorem dX1_copy_48 : decode cX1_copy 48 = .ok (.aload_n 0, 1) := by decide +kernel
theorem dX1_copy_49 : decode cX1_copy 49 = .ok (.getfield 18, 3) := by decide +kernel
theorem dX1_copy_52 : decode cX1_copy 52 = .ok (.iload_n 1, 1) := by decide +kernel
theorem dX1_copy_53 : decode cX1_copy 53 = .ok (.aaload, 1) := by decide +kernel
theorem dX1_copy_54 : decode cX1_copy 54 = .ok (.aastore, 1) := by decide +kernel
theorem dX1_copy_55 : decode cX1_copy 55 = .ok (.return_, 1) := by decide +kernel
theorem dX1_split_0 : decode cX1_split 0 = .ok (.new 9, 3) := by decide +kernel
theorem dX1_split_3 : decode cX1_split 3 = .ok (.dup, 1) := by decide +kernel
theorem dX1_split_4 : decode cX1_split 4 = .ok (.iload_n 1, 1) := by decide +kernel
theorem dX1_split_5 : decode cX1_split 5 = .ok (.aload_n 0, 1) := by decide +kernel
theorem dX1_split_6 : decode cX1_split 6 = .ok (.getfield 26, 3) := by decide +kernel
theorem dX1_split_9 : decode cX1_split 9 = .ok (.aload_n 0, 1) := by decide +kernel
theorem dX1_split_10 : decode cX1_split 10 = .ok (.iconst 3, 1) := by decide +kernel
theorem dX1_split_11 : decode cX1_split 11 = .ok (.invokevirtual 46, 3) := by decide +kernel
theorem dX1_split_14 : decode cX1_split 14 = .ok (.aload_n 0, 1) := by decide +kernel
theorem dX1_split_15 : decode cX1_split 15 = .ok (.getfield 32, 3) := by decide +kernel
theorem dX1_split_18 : decode cX1_split 18 = .ok (.invokespecial 61, 3) := by decide +kernel
theorem dX1_split_21 : decode cX1_split 21 = .ok (.astore_n 2, 1) := by decide +kernel
theorem dX1_split_22 : decode cX1_split 22 = .ok (.iconst 3, 1) := by decide +kernel
theorem dX1_split_23 : decode cX1_split 23 = .ok (.istore_n 3, 1) := by decide +kernel
theorem dX1_split_24 : decode cX1_split 24 = .ok (.iload_n 3, 1) := by decide +kernel
theorem dX1_split_25 : decode cX1_split 25 = .ok (.aload_n 0, 1) := by decide +kernel
theorem dX1_split_26 : decode cX1_split 26 = .ok (.getfield 35, 3) := by decide +kernel
theorem dX1_split_29 : decode cX1_split 29 = .ok (.if_icmp .ge 36, 3) := by decide +kernel
theorem dX1_split_32 : decode cX1_split 32 = .ok (.iload_n 3, 1) := by decide +kernel
theorem dX1_split_33 : decode cX1_split 33 = .ok (.iconst 5, 1) := by decide +kernel
theorem dX1_split_34 : decode cX1_split 34 = .ok (.if_icmp .ge 31, 3) := by decide +kernel
theorem dX1_split_37 : decode cX1_split 37 = .ok (.aload_n 2, 1) := by decide +kernel
theorem dX1_split_38 : decode cX1_split 38 = .ok (.aload_n 0, 1) := by decide +kernel
theorem dX1_split_39 : decode cX1_split 39 = .ok (.getfield 11, 3) := by decide +kernel
theorem dX1_split_42 : decode cX1_split 42 = .ok (.iload_n 3, 1) := by decide +kernel
theorem dX1_split_43 : decode cX1_split 43 = .ok (.iaload, 1) := by decide +kernel
theorem dX1_split_44 : decode cX1_split 44 = .ok (.aload_n 0, 1) := by decide +kernel
theorem dX1_split_45 : decode cX1_split 45 = .ok (.getfield 15, 3) := by decide +kernel
theorem dX1_split_48 : decode cX1_split 48 = .ok (.iload_n 3, 1) := by decide +kernel
theorem dX1_split_49 : decode cX1_split 49 = .ok (.iaload, 1) := by decide +kernel
theorem dX1_split_50 : decode cX1_split 50 = .ok (.aload_n 0, 1) := by decide +kernel
theorem dX1_split_51 : decode cX1_split 51 = .ok (.getfield 18, 3) := by decide +kernel
theorem dX1_split_54 : decode cX1_split 54 = .ok (.iload_n 3, 1) := by decide +kernel
theorem dX1_split_55 : decode cX1_split 55 = .ok (.aaload, 1) := by decide +kernel
theorem dX1_split_56 : decode cX1_split 56 = .ok (.invokevirtual 64, 3) := by decide +kernel
theorem dX1_split_59 : decode cX1_split 59 = .ok (.iinc 3 1, 3) := by decide +kernel
theorem dX1_split_62 : decode cX1_split 62 = .ok (.goto (-38), 3) := by decide +kernel
theorem dX1_split_65 : decode cX1_split 65 = .ok (.aload_n 2, 1) := by decide +kernel
theorem dX1_split_66 : decode cX1_split 66 = .ok (.aload_n 0, 1) := by decide +kernel
theorem dX1_split_67 : decode cX1_split 67 = .ok (.getfield 49, 3) := by decide +kernel
theorem dX1_split_70 : decode cX1_split 70 = .ok (.putfield 49, 3) := by decide +kernel
theorem dX1_split_73 : decode cX1_split 73 = .ok (.aload_n 0, 1) := by decide +kernel
theorem dX1_split_74 : decode cX1_split 74 = .ok (.iconst 3, 1) := by decide +kernel
theorem dX1_split_75 : decode cX1_split 75 = .ok (.putfield 35, 3) := by decide +kernel
theorem dX1_split_78 : decode cX1_split 78 = .ok (.aload_n 0, 1) := by decide +kernel
theorem dX1_split_79 : decode cX1_split 79 = .ok (.aload_n 2, 1) := by decide +kernel
theorem dX1_split_80 : decode cX1_split 80 = .ok (.getfield 29, 3) := by decide +kernel
theorem dX1_split_83 : decode cX1_split 83 = .ok (.putfield 32, 3) := by decide +kernel
theorem dX1_split_86 : decode cX1_split 86 = .ok (.aload_n 0, 1) := by decide +kernel
theorem dX1_split_87 : decode cX1_split 87 = .ok (.aload_n 2, 1) := by decide +kernel
theorem dX1_split_88 : decode cX1_split 88 = .ok (.putfield 49, 3) := by decide +kernel
theorem dX1_split_91 : decode cX1_split 91 = .ok (.aload_n 2, 1) := by decide +kernel
theorem dX1_split_92 : decode cX1_split 92 = .ok (.areturn, 1) := by decide +kernel
theorem dX1_placeOfEmptyLeaf_0 : decode cX1_placeOfEmptyLeaf 0 = .ok (.iconst 1, 1) := by decide +kernel
theorem dX1_placeOfEmptyLeaf_1 : decode cX1_placeOfEmptyLeaf 1 = .ok (.istore_n 1, 1) := by decide +kernel
theorem dX1_placeOfEmptyLeaf_2 : decode cX1_placeOfEmptyLeaf 2 = .ok (.iload_n 1, 1) := by decide +kernel
theorem dX1_placeOfEmptyLeaf_3 : decode cX1_placeOfEmptyLeaf 3 = .ok (.aload_n 0, 1) := by decide +kernel
theorem dX1_placeOfEmptyLeaf_4 : decode cX1_placeOfEmptyLeaf 4 = .ok (.getfield 35, 3) := by decide +kernel
theorem dX1_placeOfEmptyLeaf_7 : decode cX1_placeOfEmptyLeaf 7 = .ok (.if_icmp .ge 34, 3) := by decide +kernel
theorem dX1_placeOfEmptyLeaf_10 : decode cX1_placeOfEmptyLeaf 10 = .ok (.iload_n 1, 1) := by decide +kernel
theorem dX1_placeOfEmptyLeaf_11 : decode cX1_placeOfEmptyLeaf 11 = .ok (.iconst 5, 1) := by decide +kernel
theorem dX1_placeOfEmptyLeaf_12 : decode cX1_placeOfEmptyLeaf 12 = .ok (.if_icmp .ge 29, 3) := by decide +kernel
theorem dX1_placeOfEmptyLeaf_15 : decode cX1_placeOfEmptyLeaf 15 = .ok (.aload_n 0, 1) := by decide +kernel
theorem dX1_placeOfEmptyLeaf_16 : decode cX1_placeOfEmptyLeaf 16 = .ok (.getfield 18, 3) := by decide +kernel
theorem dX1_placeOfEmptyLeaf_19 : decode cX1_placeOfEmptyLeaf 19 = .ok (.iload_n 1, 1) := by decide +kernel
theorem dX1_placeOfEmptyLeaf_20 : decode cX1_placeOfEmptyLeaf 20 = .ok (.aaload, 1) := by decide +kernel
theorem dX1_placeOfEmptyLeaf_21 : decode cX1_placeOfEmptyLeaf 21 = .ok (.astore_n 2, 1) := by decide +kernel
theorem dX1_placeOfEmptyLeaf_22 : decode cX1_placeOfEmptyLeaf 22 = .ok (.aload_n 2, 1) := by decide +kernel
theorem dX1_placeOfEmptyLeaf_23 : decode cX1_placeOfEmptyLeaf 23 = .ok (.ifnull 12, 3) := by decide +kernel
theorem dX1_placeOfEmptyLeaf_26 : decode cX1_placeOfEmptyLeaf 26 = .ok (.aload_n 2, 1) := by decide +kernel
theorem dX1_placeOfEmptyLeaf_27 : decode cX1_placeOfEmptyLeaf 27 = .ok (.getfield 35, 3) := by decide +kernel
theorem dX1_placeOfEmptyLeaf_30 : decode cX1_placeOfEmptyLeaf 30 = .ok (.ifCond .ne 5, 3) := by decide +kernel
theorem dX1_placeOfEmptyLeaf_33 : decode cX1_placeOfEmptyLeaf 33 = .ok (.iload_n 1, 1) := by decide +kernel
theorem dX1_placeOfEmptyLeaf_34 : decode cX1_placeOfEmptyLeaf 34 = .ok (.ireturn, 1) := by decide +kernel
theorem dX1_placeOfEmptyLeaf_35 : decode cX1_placeOfEmptyLeaf 35 = .ok (.iinc 1 1, 3) := by decide +kernel
theorem dX1_placeOfEmptyLeaf_38 : decode cX1_placeOfEmptyLeaf 38 = .ok (.goto (-36), 3) := by decide +kernel
theorem dX1_placeOfEmptyLeaf_41 : decode cX1_placeOfEmptyLeaf 41 = .ok (.iconst (-1), 1) := by decide +kernel
theorem dX1_placeOfEmptyLeaf_42 : decode cX1_placeOfEmptyLeaf 42 = .ok (.ireturn, 1) := by decide +kernel
