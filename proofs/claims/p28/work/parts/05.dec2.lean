/-! decode rows -/
theorem dX2_init_0 : decode cX2_init 0 = .ok (.aload_n 0, 1) := by decide +kernel
theorem dX2_init_1 : decode cX2_init 1 = .ok (.invokespecial 1, 3) := by decide +kernel
theorem dX2_init_4 : decode cX2_init 4 = .ok (.aload_n 0, 1) := by decide +kernel
theorem dX2_init_5 : decode cX2_init 5 = .ok (.sipush 1024, 3) := by decide +kernel
theorem dX2_init_8 : decode cX2_init 8 = .ok (.anewarray 9, 3) := by decide +kernel
theorem dX2_init_11 : decode cX2_init 11 = .ok (.putfield 11, 3) := by decide +kernel
theorem dX2_init_14 : decode cX2_init 14 = .ok (.aload_n 0, 1) := by decide +kernel
theorem dX2_init_15 : decode cX2_init 15 = .ok (.new 15, 3) := by decide +kernel
theorem dX2_init_18 : decode cX2_init 18 = .ok (.dup, 1) := by decide +kernel
theorem dX2_init_19 : decode cX2_init 19 = .ok (.invokespecial 17, 3) := by decide +kernel
theorem dX2_init_22 : decode cX2_init 22 = .ok (.putfield 18, 3) := by decide +kernel
theorem dX2_init_25 : decode cX2_init 25 = .ok (.aload_n 0, 1) := by decide +kernel
theorem dX2_init_26 : decode cX2_init 26 = .ok (.bipush 20, 2) := by decide +kernel
theorem dX2_init_28 : decode cX2_init 28 = .ok (.anewarray 22, 3) := by decide +kernel
theorem dX2_init_31 : decode cX2_init 31 = .ok (.putfield 24, 3) := by decide +kernel
theorem dX2_init_34 : decode cX2_init 34 = .ok (.aload_n 0, 1) := by decide +kernel
theorem dX2_init_35 : decode cX2_init 35 = .ok (.new 9, 3) := by decide +kernel
theorem dX2_init_38 : decode cX2_init 38 = .ok (.dup, 1) := by decide +kernel
theorem dX2_init_39 : decode cX2_init 39 = .ok (.iconst 0, 1) := by decide +kernel
theorem dX2_init_40 : decode cX2_init 40 = .ok (.iconst 0, 1) := by decide +kernel
theorem dX2_init_41 : decode cX2_init 41 = .ok (.iconst 0, 1) := by decide +kernel
theorem dX2_init_42 : decode cX2_init 42 = .ok (.sipush 200, 3) := by decide +kernel
theorem dX2_init_45 : decode cX2_init 45 = .ok (.invokespecial 28, 3) := by decide +kernel
theorem dX2_init_48 : decode cX2_init 48 = .ok (.putfield 31, 3) := by decide +kernel
theorem dX2_init_51 : decode cX2_init 51 = .ok (.aload_n 0, 1) := by decide +kernel
theorem dX2_init_52 : decode cX2_init 52 = .ok (.getfield 11, 3) := by decide +kernel
theorem dX2_init_55 : decode cX2_init 55 = .ok (.iconst 0, 1) := by decide +kernel
theorem dX2_init_56 : decode cX2_init 56 = .ok (.aload_n 0, 1) := by decide +kernel
theorem dX2_init_57 : decode cX2_init 57 = .ok (.getfield 31, 3) := by decide +kernel
theorem dX2_init_60 : decode cX2_init 60 = .ok (.aastore, 1) := by decide +kernel
theorem dX2_init_61 : decode cX2_init 61 = .ok (.aload_n 0, 1) := by decide +kernel
theorem dX2_init_62 : decode cX2_init 62 = .ok (.aload_n 0, 1) := by decide +kernel
theorem dX2_init_63 : decode cX2_init 63 = .ok (.getfield 31, 3) := by decide +kernel
theorem dX2_init_66 : decode cX2_init 66 = .ok (.putfield 35, 3) := by decide +kernel
theorem dX2_init_69 : decode cX2_init 69 = .ok (.return_, 1) := by decide +kernel
theorem dX2_put_0 : decode cX2_put 0 = .ok (.iload_n 1, 1) := by decide +kernel
theorem dX2_put_1 : decode cX2_put 1 = .ok (.invokestatic 38, 3) := by decide +kernel
theorem dX2_put_4 : decode cX2_put 4 = .ok (.iload_n 2, 1) := by decide +kernel
theorem dX2_put_5 : decode cX2_put 5 = .ok (.invokestatic 42, 3) := by decide +kernel
theorem dX2_put_8 : decode cX2_put 8 = .ok (.aload_n 0, 1) := by decide +kernel
theorem dX2_put_9 : decode cX2_put 9 = .ok (.iload_n 1, 1) := by decide +kernel
theorem dX2_put_10 : decode cX2_put 10 = .ok (.iconst 0, 1) := by decide +kernel
theorem dX2_put_11 : decode cX2_put 11 = .ok (.invokevirtual 45, 3) := by decide +kernel
theorem dX2_put_14 : decode cX2_put 14 = .ok (.astore_n 3, 1) := by decide +kernel
theorem dX2_put_15 : decode cX2_put 15 = .ok (.aload_n 3, 1) := by decide +kernel
theorem dX2_put_16 : decode cX2_put 16 = .ok (.iload_n 1, 1) := by decide +kernel
theorem dX2_put_17 : decode cX2_put 17 = .ok (.invokevirtual 49, 3) := by decide +kernel
theorem dX2_put_20 : decode cX2_put 20 = .ok (.istore 4, 2) := by decide +kernel
theorem dX2_put_22 : decode cX2_put 22 = .ok (.iload 4, 2) := by decide +kernel
theorem dX2_put_24 : decode cX2_put 24 = .ok (.iconst (-1), 1) := by decide +kernel
theorem dX2_put_25 : decode cX2_put 25 = .ok (.if_icmp .eq 11, 3) := by decide +kernel
theorem dX2_put_28 : decode cX2_put 28 = .ok (.aload_n 3, 1) := by decide +kernel
theorem dX2_put_29 : decode cX2_put 29 = .ok (.iload 4, 2) := by decide +kernel
theorem dX2_put_31 : decode cX2_put 31 = .ok (.iload_n 2, 1) := by decide +kernel
theorem dX2_put_32 : decode cX2_put 32 = .ok (.invokevirtual 53, 3) := by decide +kernel
theorem dX2_put_35 : decode cX2_put 35 = .ok (.ireturn, 1) := by decide +kernel
theorem dX2_put_36 : decode cX2_put 36 = .ok (.aload_n 0, 1) := by decide +kernel
theorem dX2_put_37 : decode cX2_put 37 = .ok (.aload_n 3, 1) := by decide +kernel
theorem dX2_put_38 : decode cX2_put 38 = .ok (.iload_n 1, 1) := by decide +kernel
theorem dX2_put_39 : decode cX2_put 39 = .ok (.iload_n 2, 1) := by decide +kernel
theorem dX2_put_40 : decode cX2_put 40 = .ok (.aconst_null, 1) := by decide +kernel
theorem dX2_put_41 : decode cX2_put 41 = .ok (.invokevirtual 57, 3) := by decide +kernel
theorem dX2_put_44 : decode cX2_put 44 = .ok (.ifCond .eq 13, 3) := by decide +kernel
theorem dX2_put_47 : decode cX2_put 47 = .ok (.aload_n 0, 1) := by decide +kernel
theorem dX2_put_48 : decode cX2_put 48 = .ok (.dup, 1) := by decide +kernel
theorem dX2_put_49 : decode cX2_put 49 = .ok (.getfield 61, 3) := by decide +kernel
theorem dX2_put_52 : decode cX2_put 52 = .ok (.iconst 1, 1) := by decide +kernel
theorem dX2_put_53 : decode cX2_put 53 = .ok (.iadd, 1) := by decide +kernel
theorem dX2_put_54 : decode cX2_put 54 = .ok (.putfield 61, 3) := by decide +kernel
theorem dX2_put_57 : decode cX2_put 57 = .ok (.iconst (-1), 1) := by decide +kernel
theorem dX2_put_58 : decode cX2_put 58 = .ok (.ireturn, 1) := by decide +kernel
theorem dX2_take_0 : decode cX2_take 0 = .ok (.iload_n 1, 1) := by decide +kernel
theorem dX2_take_1 : decode cX2_take 1 = .ok (.invokestatic 38, 3) := by decide +kernel
theorem dX2_take_4 : decode cX2_take 4 = .ok (.aload_n 0, 1) := by decide +kernel
theorem dX2_take_5 : decode cX2_take 5 = .ok (.iload_n 1, 1) := by decide +kernel
theorem dX2_take_6 : decode cX2_take 6 = .ok (.iconst 0, 1) := by decide +kernel
theorem dX2_take_7 : decode cX2_take 7 = .ok (.invokevirtual 45, 3) := by decide +kernel
theorem dX2_take_10 : decode cX2_take 10 = .ok (.astore_n 2, 1) := by decide +kernel
theorem dX2_take_11 : decode cX2_take 11 = .ok (.aload_n 2, 1) := by decide +kernel
theorem dX2_take_12 : decode cX2_take 12 = .ok (.iload_n 1, 1) := by decide +kernel
theorem dX2_take_13 : decode cX2_take 13 = .ok (.invokevirtual 49, 3) := by decide +kernel
theorem dX2_take_16 : decode cX2_take 16 = .ok (.istore_n 3, 1) := by decide +kernel
theorem dX2_take_17 : decode cX2_take 17 = .ok (.iload_n 3, 1) := by decide +kernel
theorem dX2_take_18 : decode cX2_take 18 = .ok (.iconst (-1), 1) := by decide +kernel
theorem dX2_take_19 : decode cX2_take 19 = .ok (.if_icmp .ne 5, 3) := by decide +kernel
theorem dX2_take_22 : decode cX2_take 22 = .ok (.iconst (-1), 1) := by decide +kernel
theorem dX2_take_23 : decode cX2_take 23 = .ok (.ireturn, 1) := by decide +kernel
theorem dX2_take_24 : decode cX2_take 24 = .ok (.aload_n 2, 1) := by decide +kernel
theorem dX2_take_25 : decode cX2_take 25 = .ok (.iload_n 3, 1) := by decide +kernel
theorem dX2_take_26 : decode cX2_take 26 = .ok (.invokevirtual 65, 3) := by decide +kernel
theorem dX2_take_29 : decode cX2_take 29 = .ok (.istore 4, 2) := by decide +kernel
theorem dX2_take_31 : decode cX2_take 31 = .ok (.aload_n 2, 1) := by decide +kernel
theorem dX2_take_32 : decode cX2_take 32 = .ok (.iload_n 3, 1) := by decide +kernel
theorem dX2_take_33 : decode cX2_take 33 = .ok (.invokevirtual 68, 3) := by decide +kernel
theorem dX2_take_36 : decode cX2_take 36 = .ok (.aload_n 0, 1) := by decide +kernel
theorem dX2_take_37 : decode cX2_take 37 = .ok (.dup, 1) := by decide +kernel
theorem dX2_take_38 : decode cX2_take 38 = .ok (.getfield 61, 3) := by decide +kernel
theorem dX2_take_41 : decode cX2_take 41 = .ok (.iconst 1, 1) := by decide +kernel
theorem dX2_take_42 : decode cX2_take 42 = .ok (.isub, 1) := by decide +kernel
theorem dX2_take_43 : decode cX2_take 43 = .ok (.putfield 61, 3) := by decide +kernel
theorem dX2_take_46 : decode cX2_take 46 = .ok (.iload 4, 2) := by decide +kernel
theorem dX2_take_48 : decode cX2_take 48 = .ok (.ireturn, 1) := by decide +kernel
theorem dX2_get_0 : decode cX2_get 0 = .ok (.iload_n 1, 1) := by decide +kernel
theorem dX2_get_1 : decode cX2_get 1 = .ok (.invokestatic 38, 3) := by decide +kernel
theorem dX2_get_4 : decode cX2_get 4 = .ok (.aload_n 0, 1) := by decide +kernel
theorem dX2_get_5 : decode cX2_get 5 = .ok (.iload_n 1, 1) := by decide +kernel
theorem dX2_get_6 : decode cX2_get 6 = .ok (.iconst 0, 1) := by decide +kernel
theorem dX2_get_7 : decode cX2_get 7 = .ok (.invokevirtual 45, 3) := by decide +kernel
theorem dX2_get_10 : decode cX2_get 10 = .ok (.astore_n 2, 1) := by decide +kernel
theorem dX2_get_11 : decode cX2_get 11 = .ok (.aload_n 2, 1) := by decide +kernel
theorem dX2_get_12 : decode cX2_get 12 = .ok (.aload_n 2, 1) := by decide +kernel
theorem dX2_get_13 : decode cX2_get 13 = .ok (.iload_n 1, 1) := by decide +kernel
theorem dX2_get_14 : decode cX2_get 14 = .ok (.invokevirtual 49, 3) := by decide +kernel
theorem dX2_get_17 : decode cX2_get 17 = .ok (.invokevirtual 65, 3) := by decide +kernel
theorem dX2_get_20 : decode cX2_get 20 = .ok (.ireturn, 1) := by decide +kernel
theorem dX2_getByLeaves_0 : decode cX2_getByLeaves 0 = .ok (.iload_n 1, 1) := by decide +kernel
theorem dX2_getByLeaves_1 : decode cX2_getByLeaves 1 = .ok (.invokestatic 38, 3) := by decide +kernel
theorem dX2_getByLeaves_4 : decode cX2_getByLeaves 4 = .ok (.aload_n 0, 1) := by decide +kernel
theorem dX2_getByLeaves_5 : decode cX2_getByLeaves 5 = .ok (.getfield 31, 3) := by decide +kernel
theorem dX2_getByLeaves_8 : decode cX2_getByLeaves 8 = .ok (.astore_n 2, 1) := by decide +kernel
theorem dX2_getByLeaves_9 : decode cX2_getByLeaves 9 = .ok (.aload_n 2, 1) := by decide +kernel
theorem dX2_getByLeaves_10 : decode cX2_getByLeaves 10 = .ok (.ifnull 28, 3) := by decide +kernel
theorem dX2_getByLeaves_13 : decode cX2_getByLeaves 13 = .ok (.aload_n 2, 1) := by decide +kernel
theorem dX2_getByLeaves_14 : decode cX2_getByLeaves 14 = .ok (.iload_n 1, 1) := by decide +kernel
theorem dX2_getByLeaves_15 : decode cX2_getByLeaves 15 = .ok (.invokevirtual 49, 3) := by decide +kernel
theorem dX2_getByLeaves_18 : decode cX2_getByLeaves 18 = .ok (.istore_n 3, 1) := by decide +kernel
theorem dX2_getByLeaves_19 : decode cX2_getByLeaves 19 = .ok (.iload_n 3, 1) := by decide +kernel
theorem dX2_getByLeaves_20 : decode cX2_getByLeaves 20 = .ok (.iconst (-1), 1) := by decide +kernel
theorem dX2_getByLeaves_21 : decode cX2_getByLeaves 21 = .ok (.if_icmp .eq 9, 3) := by decide +kernel
theorem dX2_getByLeaves_24 : decode cX2_getByLeaves 24 = .ok (.aload_n 2, 1) := by decide +kernel
theorem dX2_getByLeaves_25 : decode cX2_getByLeaves 25 = .ok (.iload_n 3, 1) := by decide +kernel
theorem dX2_getByLeaves_26 : decode cX2_getByLeaves 26 = .ok (.invokevirtual 65, 3) := by decide +kernel
theorem dX2_getByLeaves_29 : decode cX2_getByLeaves 29 = .ok (.ireturn, 1) := by decide +kernel
theorem dX2_getByLeaves_30 : decode cX2_getByLeaves 30 = .ok (.aload_n 2, 1) := by decide +kernel
theorem dX2_getByLeaves_31 : decode cX2_getByLeaves 31 = .ok (.getfield 71, 3) := by decide +kernel
theorem dX2_getByLeaves_34 : decode cX2_getByLeaves 34 = .ok (.astore_n 2, 1) := by decide +kernel
theorem dX2_getByLeaves_35 : decode cX2_getByLeaves 35 = .ok (.goto (-26), 3) := by decide +kernel
theorem dX2_getByLeaves_38 : decode cX2_getByLeaves 38 = .ok (.iconst (-1), 1) := by decide +kernel
theorem dX2_getByLeaves_39 : decode cX2_getByLeaves 39 = .ok (.ireturn, 1) := by decide +kernel
theorem dX2_keys_0 : decode cX2_keys 0 = .ok (.aload_n 0, 1) := by decide +kernel
theorem dX2_keys_1 : decode cX2_keys 1 = .ok (.getfield 61, 3) := by decide +kernel
theorem dX2_keys_4 : decode cX2_keys 4 = .ok (.ireturn, 1) := by decide +kernel
theorem dX2_waiting_0 : decode cX2_waiting 0 = .ok (.aload_n 0, 1) := by decide +kernel
theorem dX2_waiting_1 : decode cX2_waiting 1 = .ok (.getfield 18, 3) := by decide +kernel
theorem dX2_waiting_4 : decode cX2_waiting 4 = .ok (.invokevirtual 74, 3) := by decide +kernel
theorem dX2_waiting_7 : decode cX2_waiting 7 = .ok (.ireturn, 1) := by decide +kernel
theorem dX2_post_0 : decode cX2_post 0 = .ok (.aload_n 0, 1) := by decide +kernel
theorem dX2_post_1 : decode cX2_post 1 = .ok (.getfield 18, 3) := by decide +kernel
theorem dX2_post_4 : decode cX2_post 4 = .ok (.invokevirtual 78, 3) := by decide +kernel
theorem dX2_post_7 : decode cX2_post 7 = .ok (.ifCond .eq 13, 3) := by decide +kernel
theorem dX2_post_10 : decode cX2_post 10 = .ok (.new 82, 3) := by decide +kernel
theorem dX2_post_13 : decode cX2_post 13 = .ok (.dup, 1) := by decide +kernel
theorem dX2_post_14 : decode cX2_post 14 = .ok (.ldc 84, 2) := by decide +kernel
theorem dX2_post_16 : decode cX2_post 16 = .ok (.invokespecial 86, 3) := by decide +kernel
theorem dX2_post_19 : decode cX2_post 19 = .ok (.athrow, 1) := by decide +kernel
theorem dX2_post_20 : decode cX2_post 20 = .ok (.aload_n 0, 1) := by decide +kernel
theorem dX2_post_21 : decode cX2_post 21 = .ok (.invokevirtual 89, 3) := by decide +kernel
theorem dX2_post_24 : decode cX2_post 24 = .ok (.aload_n 0, 1) := by decide +kernel
theorem dX2_post_25 : decode cX2_post 25 = .ok (.getfield 18, 3) := by decide +kernel
theorem dX2_post_28 : decode cX2_post 28 = .ok (.invokevirtual 74, 3) := by decide +kernel
theorem dX2_post_31 : decode cX2_post 31 = .ok (.ireturn, 1) := by decide +kernel
theorem dX2_postAll_0 : decode cX2_postAll 0 = .ok (.iconst 0, 1) := by decide +kernel
theorem dX2_postAll_1 : decode cX2_postAll 1 = .ok (.istore_n 1, 1) := by decide +kernel
theorem dX2_postAll_2 : decode cX2_postAll 2 = .ok (.aload_n 0, 1) := by decide +kernel
theorem dX2_postAll_3 : decode cX2_postAll 3 = .ok (.getfield 18, 3) := by decide +kernel
theorem dX2_postAll_6 : decode cX2_postAll 6 = .ok (.invokevirtual 78, 3) := by decide +kernel
theorem dX2_postAll_9 : decode cX2_postAll 9 = .ok (.ifCond .ne 20, 3) := by decide +kernel
theorem dX2_postAll_12 : decode cX2_postAll 12 = .ok (.iload_n 1, 1) := by decide +kernel
theorem dX2_postAll_13 : decode cX2_postAll 13 = .ok (.sipush 1024, 3) := by decide +kernel
theorem dX2_postAll_16 : decode cX2_postAll 16 = .ok (.if_icmp .ge 13, 3) := by decide +kernel
theorem dX2_postAll_19 : decode cX2_postAll 19 = .ok (.aload_n 0, 1) := by decide +kernel
theorem dX2_postAll_20 : decode cX2_postAll 20 = .ok (.invokevirtual 89, 3) := by decide +kernel
theorem dX2_postAll_23 : decode cX2_postAll 23 = .ok (.iinc 1 1, 3) := by decide +kernel
theorem dX2_postAll_26 : decode cX2_postAll 26 = .ok (.goto (-24), 3) := by decide +kernel
theorem dX2_postAll_29 : decode cX2_postAll 29 = .ok (.iload_n 1, 1) := by decide +kernel
theorem dX2_postAll_30 : decode cX2_postAll 30 = .ok (.ireturn, 1) := by decide +kernel
theorem dX2_takeOut_0 : decode cX2_takeOut 0 = .ok (.aload_n 0, 1) := by decide +kernel
theorem dX2_takeOut_1 : decode cX2_takeOut 1 = .ok (.getfield 35, 3) := by decide +kernel
theorem dX2_takeOut_4 : decode cX2_takeOut 4 = .ok (.getfield 92, 3) := by decide +kernel
theorem dX2_takeOut_7 : decode cX2_takeOut 7 = .ok (.ifCond .ne 5, 3) := by decide +kernel
theorem dX2_takeOut_10 : decode cX2_takeOut 10 = .ok (.iconst (-1), 1) := by decide +kernel
theorem dX2_takeOut_11 : decode cX2_takeOut 11 = .ok (.ireturn, 1) := by decide +kernel
theorem dX2_takeOut_12 : decode cX2_takeOut 12 = .ok (.aload_n 0, 1) := by decide +kernel
theorem dX2_takeOut_13 : decode cX2_takeOut 13 = .ok (.iconst 0, 1) := by decide +kernel
theorem dX2_takeOut_14 : decode cX2_takeOut 14 = .ok (.iconst 1, 1) := by decide +kernel
theorem dX2_takeOut_15 : decode cX2_takeOut 15 = .ok (.invokevirtual 45, 3) := by decide +kernel
theorem dX2_takeOut_18 : decode cX2_takeOut 18 = .ok (.astore_n 1, 1) := by decide +kernel
theorem dX2_takeOut_19 : decode cX2_takeOut 19 = .ok (.aload_n 1, 1) := by decide +kernel
theorem dX2_takeOut_20 : decode cX2_takeOut 20 = .ok (.ifnull 41, 3) := by decide +kernel
theorem dX2_takeOut_23 : decode cX2_takeOut 23 = .ok (.aload_n 1, 1) := by decide +kernel
theorem dX2_takeOut_24 : decode cX2_takeOut 24 = .ok (.invokevirtual 95, 3) := by decide +kernel
theorem dX2_takeOut_27 : decode cX2_takeOut 27 = .ok (.istore_n 2, 1) := by decide +kernel
theorem dX2_takeOut_28 : decode cX2_takeOut 28 = .ok (.aload_n 1, 1) := by decide +kernel
theorem dX2_takeOut_29 : decode cX2_takeOut 29 = .ok (.iload_n 2, 1) := by decide +kernel
theorem dX2_takeOut_30 : decode cX2_takeOut 30 = .ok (.invokevirtual 98, 3) := by decide +kernel
theorem dX2_takeOut_33 : decode cX2_takeOut 33 = .ok (.astore_n 3, 1) := by decide +kernel
theorem dX2_takeOut_34 : decode cX2_takeOut 34 = .ok (.aload_n 3, 1) := by decide +kernel
theorem dX2_takeOut_35 : decode cX2_takeOut 35 = .ok (.ifnull 18, 3) := by decide +kernel
theorem dX2_takeOut_38 : decode cX2_takeOut 38 = .ok (.aload_n 1, 1) := by decide +kernel
theorem dX2_takeOut_39 : decode cX2_takeOut 39 = .ok (.iload_n 2, 1) := by decide +kernel
theorem dX2_takeOut_40 : decode cX2_takeOut 40 = .ok (.invokevirtual 68, 3) := by decide +kernel
theorem dX2_takeOut_43 : decode cX2_takeOut 43 = .ok (.aload_n 0, 1) := by decide +kernel
theorem dX2_takeOut_44 : decode cX2_takeOut 44 = .ok (.aload_n 3, 1) := by decide +kernel
theorem dX2_takeOut_45 : decode cX2_takeOut 45 = .ok (.invokevirtual 102, 3) := by decide +kernel
theorem dX2_takeOut_48 : decode cX2_takeOut 48 = .ok (.aload_n 3, 1) := by decide +kernel
theorem dX2_takeOut_49 : decode cX2_takeOut 49 = .ok (.getfield 106, 3) := by decide +kernel
theorem dX2_takeOut_52 : decode cX2_takeOut 52 = .ok (.ireturn, 1) := by decide +kernel
theorem dX2_takeOut_53 : decode cX2_takeOut 53 = .ok (.aload_n 1, 1) := by decide +kernel
theorem dX2_takeOut_54 : decode cX2_takeOut 54 = .ok (.getfield 71, 3) := by decide +kernel
theorem dX2_takeOut_57 : decode cX2_takeOut 57 = .ok (.astore_n 1, 1) := by decide +kernel
theorem dX2_takeOut_58 : decode cX2_takeOut 58 = .ok (.goto (-39), 3) := by decide +kernel
theorem dX2_takeOut_61 : decode cX2_takeOut 61 = .ok (.iconst (-1), 1) := by decide +kernel
theorem dX2_takeOut_62 : decode cX2_takeOut 62 = .ok (.ireturn, 1) := by decide +kernel
theorem dX2_recycle_0 : decode cX2_recycle 0 = .ok (.iconst 0, 1) := by decide +kernel
theorem dX2_recycle_1 : decode cX2_recycle 1 = .ok (.istore_n 1, 1) := by decide +kernel
theorem dX2_recycle_2 : decode cX2_recycle 2 = .ok (.iconst 0, 1) := by decide +kernel
theorem dX2_recycle_3 : decode cX2_recycle 3 = .ok (.istore_n 2, 1) := by decide +kernel
theorem dX2_recycle_4 : decode cX2_recycle 4 = .ok (.iload_n 2, 1) := by decide +kernel
theorem dX2_recycle_5 : decode cX2_recycle 5 = .ok (.aload_n 0, 1) := by decide +kernel
theorem dX2_recycle_6 : decode cX2_recycle 6 = .ok (.getfield 11, 3) := by decide +kernel
theorem dX2_recycle_9 : decode cX2_recycle 9 = .ok (.arraylength, 1) := by decide +kernel
theorem dX2_recycle_10 : decode cX2_recycle 10 = .ok (.if_icmp .ge 48, 3) := by decide +kernel
theorem dX2_recycle_13 : decode cX2_recycle 13 = .ok (.aload_n 0, 1) := by decide +kernel
theorem dX2_recycle_14 : decode cX2_recycle 14 = .ok (.getfield 11, 3) := by decide +kernel
theorem dX2_recycle_17 : decode cX2_recycle 17 = .ok (.iload_n 2, 1) := by decide +kernel
theorem dX2_recycle_18 : decode cX2_recycle 18 = .ok (.aaload, 1) := by decide +kernel
theorem dX2_recycle_19 : decode cX2_recycle 19 = .ok (.astore_n 3, 1) := by decide +kernel
theorem dX2_recycle_20 : decode cX2_recycle 20 = .ok (.aload_n 3, 1) := by decide +kernel
theorem dX2_recycle_21 : decode cX2_recycle 21 = .ok (.ifnull 31, 3) := by decide +kernel
theorem dX2_recycle_24 : decode cX2_recycle 24 = .ok (.aload_n 3, 1) := by decide +kernel
theorem dX2_recycle_25 : decode cX2_recycle 25 = .ok (.getfield 109, 3) := by decide +kernel
theorem dX2_recycle_28 : decode cX2_recycle 28 = .ok (.ifCond .eq 24, 3) := by decide +kernel
theorem dX2_recycle_31 : decode cX2_recycle 31 = .ok (.aload_n 0, 1) := by decide +kernel
theorem dX2_recycle_32 : decode cX2_recycle 32 = .ok (.aload_n 3, 1) := by decide +kernel
theorem dX2_recycle_33 : decode cX2_recycle 33 = .ok (.getfield 113, 3) := by decide +kernel
theorem dX2_recycle_36 : decode cX2_recycle 36 = .ok (.invokevirtual 116, 3) := by decide +kernel
theorem dX2_recycle_39 : decode cX2_recycle 39 = .ok (.ifCond .eq 13, 3) := by decide +kernel
theorem dX2_recycle_42 : decode cX2_recycle 42 = .ok (.aload_n 0, 1) := by decide +kernel
theorem dX2_recycle_43 : decode cX2_recycle 43 = .ok (.getfield 11, 3) := by decide +kernel
theorem dX2_recycle_46 : decode cX2_recycle 46 = .ok (.iload_n 2, 1) := by decide +kernel
theorem dX2_recycle_47 : decode cX2_recycle 47 = .ok (.aconst_null, 1) := by decide +kernel
theorem dX2_recycle_48 : decode cX2_recycle 48 = .ok (.aastore, 1) := by decide +kernel
theorem dX2_recycle_49 : decode cX2_recycle 49 = .ok (.iinc 1 1, 3) := by decide +kernel
theorem dX2_recycle_52 : decode cX2_recycle 52 = .ok (.iinc 2 1, 3) := by decide +kernel
theorem dX2_recycle_55 : decode cX2_recycle 55 = .ok (.goto (-51), 3) := by decide +kernel
theorem dX2_recycle_58 : decode cX2_recycle 58 = .ok (.iload_n 1, 1) := by decide +kernel
theorem dX2_recycle_59 : decode cX2_recycle 59 = .ok (.ireturn, 1) := by decide +kernel
theorem dX2_dead_0 : decode cX2_dead 0 = .ok (.iconst 0, 1) := by decide +kernel
theorem dX2_dead_1 : decode cX2_dead 1 = .ok (.istore_n 1, 1) := by decide +kernel
theorem dX2_dead_2 : decode cX2_dead 2 = .ok (.aload_n 0, 1) := by decide +kernel
theorem dX2_dead_3 : decode cX2_dead 3 = .ok (.getfield 11, 3) := by decide +kernel
theorem dX2_dead_6 : decode cX2_dead 6 = .ok (.astore_n 2, 1) := by decide +kernel
theorem dX2_dead_7 : decode cX2_dead 7 = .ok (.aload_n 2, 1) := by decide +kernel
theorem dX2_dead_8 : decode cX2_dead 8 = .ok (.arraylength, 1) := by decide +kernel
theorem dX2_dead_9 : decode cX2_dead 9 = .ok (.istore_n 3, 1) := by decide +kernel
theorem dX2_dead_10 : decode cX2_dead 10 = .ok (.iconst 0, 1) := by decide +kernel
theorem dX2_dead_11 : decode cX2_dead 11 = .ok (.istore 4, 2) := by decide +kernel
theorem dX2_dead_13 : decode cX2_dead 13 = .ok (.iload 4, 2) := by decide +kernel
theorem dX2_dead_15 : decode cX2_dead 15 = .ok (.iload_n 3, 1) := by decide +kernel
theorem dX2_dead_16 : decode cX2_dead 16 = .ok (.if_icmp .ge 31, 3) := by decide +kernel
theorem dX2_dead_19 : decode cX2_dead 19 = .ok (.aload_n 2, 1) := by decide +kernel
theorem dX2_dead_20 : decode cX2_dead 20 = .ok (.iload 4, 2) := by decide +kernel
theorem dX2_dead_22 : decode cX2_dead 22 = .ok (.aaload, 1) := by decide +kernel
theorem dX2_dead_23 : decode cX2_dead 23 = .ok (.astore 5, 2) := by decide +kernel
theorem dX2_dead_25 : decode cX2_dead 25 = .ok (.aload 5, 2) := by decide +kernel
theorem dX2_dead_27 : decode cX2_dead 27 = .ok (.ifnull 14, 3) := by decide +kernel
theorem dX2_dead_30 : decode cX2_dead 30 = .ok (.aload 5, 2) := by decide +kernel
theorem dX2_dead_32 : decode cX2_dead 32 = .ok (.getfield 109, 3) := by decide +kernel
theorem dX2_dead_35 : decode cX2_dead 35 = .ok (.ifCond .eq 6, 3) := by decide +kernel
theorem dX2_dead_38 : decode cX2_dead 38 = .ok (.iinc 1 1, 3) := by decide +kernel
theorem dX2_dead_41 : decode cX2_dead 41 = .ok (.iinc 4 1, 3) := by decide +kernel
theorem dX2_dead_44 : decode cX2_dead 44 = .ok (.goto (-31), 3) := by decide +kernel
theorem dX2_dead_47 : decode cX2_dead 47 = .ok (.iload_n 1, 1) := by decide +kernel
theorem dX2_dead_48 : decode cX2_dead 48 = .ok (.ireturn, 1) := by decide +kernel
theorem dX2_epoch_0 : decode cX2_epoch 0 = .ok (.aload_n 0, 1) := by decide +kernel
theorem dX2_epoch_1 : decode cX2_epoch 1 = .ok (.getfield 120, 3) := by decide +kernel
theorem dX2_epoch_4 : decode cX2_epoch 4 = .ok (.ireturn, 1) := by decide +kernel
theorem dX2_pages_0 : decode cX2_pages 0 = .ok (.iconst 0, 1) := by decide +kernel
theorem dX2_pages_1 : decode cX2_pages 1 = .ok (.istore_n 1, 1) := by decide +kernel
theorem dX2_pages_2 : decode cX2_pages 2 = .ok (.aload_n 0, 1) := by decide +kernel
theorem dX2_pages_3 : decode cX2_pages 3 = .ok (.getfield 11, 3) := by decide +kernel
theorem dX2_pages_6 : decode cX2_pages 6 = .ok (.astore_n 2, 1) := by decide +kernel
theorem dX2_pages_7 : decode cX2_pages 7 = .ok (.aload_n 2, 1) := by decide +kernel
theorem dX2_pages_8 : decode cX2_pages 8 = .ok (.arraylength, 1) := by decide +kernel
theorem dX2_pages_9 : decode cX2_pages 9 = .ok (.istore_n 3, 1) := by decide +kernel
theorem dX2_pages_10 : decode cX2_pages 10 = .ok (.iconst 0, 1) := by decide +kernel
theorem dX2_pages_11 : decode cX2_pages 11 = .ok (.istore 4, 2) := by decide +kernel
theorem dX2_pages_13 : decode cX2_pages 13 = .ok (.iload 4, 2) := by decide +kernel
theorem dX2_pages_15 : decode cX2_pages 15 = .ok (.iload_n 3, 1) := by decide +kernel
theorem dX2_pages_16 : decode cX2_pages 16 = .ok (.if_icmp .ge 23, 3) := by decide +kernel
theorem dX2_pages_19 : decode cX2_pages 19 = .ok (.aload_n 2, 1) := by decide +kernel
theorem dX2_pages_20 : decode cX2_pages 20 = .ok (.iload 4, 2) := by decide +kernel
theorem dX2_pages_22 : decode cX2_pages 22 = .ok (.aaload, 1) := by decide +kernel
theorem dX2_pages_23 : decode cX2_pages 23 = .ok (.astore 5, 2) := by decide +kernel
theorem dX2_pages_25 : decode cX2_pages 25 = .ok (.aload 5, 2) := by decide +kernel
theorem dX2_pages_27 : decode cX2_pages 27 = .ok (.ifnull 6, 3) := by decide +kernel
theorem dX2_pages_30 : decode cX2_pages 30 = .ok (.iinc 1 1, 3) := by decide +kernel
theorem dX2_pages_33 : decode cX2_pages 33 = .ok (.iinc 4 1, 3) := by decide +kernel
theorem dX2_pages_36 : decode cX2_pages 36 = .ok (.goto (-23), 3) := by decide +kernel
theorem dX2_pages_39 : decode cX2_pages 39 = .ok (.iload_n 1, 1) := by decide +kernel
theorem dX2_pages_40 : decode cX2_pages 40 = .ok (.ireturn, 1) := by decide +kernel
theorem dX2_root_0 : decode cX2_root 0 = .ok (.aload_n 0, 1) := by decide +kernel
theorem dX2_root_1 : decode cX2_root 1 = .ok (.getfield 35, 3) := by decide +kernel
theorem dX2_root_4 : decode cX2_root 4 = .ok (.getfield 106, 3) := by decide +kernel
theorem dX2_root_7 : decode cX2_root 7 = .ok (.ireturn, 1) := by decide +kernel
theorem dX2_level_0 : decode cX2_level 0 = .ok (.aload_n 0, 1) := by decide +kernel
theorem dX2_level_1 : decode cX2_level 1 = .ok (.iload_n 1, 1) := by decide +kernel
theorem dX2_level_2 : decode cX2_level 2 = .ok (.invokevirtual 123, 3) := by decide +kernel
theorem dX2_level_5 : decode cX2_level 5 = .ok (.getfield 92, 3) := by decide +kernel
theorem dX2_level_8 : decode cX2_level 8 = .ok (.ireturn, 1) := by decide +kernel
theorem dX2_size_0 : decode cX2_size 0 = .ok (.aload_n 0, 1) := by decide +kernel
theorem dX2_size_1 : decode cX2_size 1 = .ok (.iload_n 1, 1) := by decide +kernel
theorem dX2_size_2 : decode cX2_size 2 = .ok (.invokevirtual 123, 3) := by decide +kernel
theorem dX2_size_5 : decode cX2_size 5 = .ok (.getfield 126, 3) := by decide +kernel
theorem dX2_size_8 : decode cX2_size 8 = .ok (.ireturn, 1) := by decide +kernel
theorem dX2_keyAt_0 : decode cX2_keyAt 0 = .ok (.aload_n 0, 1) := by decide +kernel
theorem dX2_keyAt_1 : decode cX2_keyAt 1 = .ok (.iload_n 1, 1) := by decide +kernel
theorem dX2_keyAt_2 : decode cX2_keyAt 2 = .ok (.invokevirtual 123, 3) := by decide +kernel
theorem dX2_keyAt_5 : decode cX2_keyAt 5 = .ok (.astore_n 3, 1) := by decide +kernel
theorem dX2_keyAt_6 : decode cX2_keyAt 6 = .ok (.iload_n 2, 1) := by decide +kernel
theorem dX2_keyAt_7 : decode cX2_keyAt 7 = .ok (.invokestatic 128, 3) := by decide +kernel
theorem dX2_keyAt_10 : decode cX2_keyAt 10 = .ok (.aload_n 3, 1) := by decide +kernel
theorem dX2_keyAt_11 : decode cX2_keyAt 11 = .ok (.iload_n 2, 1) := by decide +kernel
theorem dX2_keyAt_12 : decode cX2_keyAt 12 = .ok (.invokevirtual 131, 3) := by decide +kernel
theorem dX2_keyAt_15 : decode cX2_keyAt 15 = .ok (.ireturn, 1) := by decide +kernel
theorem dX2_below_0 : decode cX2_below 0 = .ok (.aload_n 0, 1) := by decide +kernel
theorem dX2_below_1 : decode cX2_below 1 = .ok (.iload_n 1, 1) := by decide +kernel
theorem dX2_below_2 : decode cX2_below 2 = .ok (.invokevirtual 123, 3) := by decide +kernel
theorem dX2_below_5 : decode cX2_below 5 = .ok (.astore_n 3, 1) := by decide +kernel
theorem dX2_below_6 : decode cX2_below 6 = .ok (.iload_n 2, 1) := by decide +kernel
theorem dX2_below_7 : decode cX2_below 7 = .ok (.invokestatic 128, 3) := by decide +kernel
theorem dX2_below_10 : decode cX2_below 10 = .ok (.aload_n 3, 1) := by decide +kernel
theorem dX2_below_11 : decode cX2_below 11 = .ok (.iload_n 2, 1) := by decide +kernel
theorem dX2_below_12 : decode cX2_below 12 = .ok (.invokevirtual 98, 3) := by decide +kernel
theorem dX2_below_15 : decode cX2_below 15 = .ok (.invokestatic 134, 3) := by decide +kernel
theorem dX2_below_18 : decode cX2_below 18 = .ok (.ireturn, 1) := by decide +kernel
theorem dX2_high_0 : decode cX2_high 0 = .ok (.aload_n 0, 1) := by decide +kernel
theorem dX2_high_1 : decode cX2_high 1 = .ok (.iload_n 1, 1) := by decide +kernel
theorem dX2_high_2 : decode cX2_high 2 = .ok (.invokevirtual 123, 3) := by decide +kernel
theorem dX2_high_5 : decode cX2_high 5 = .ok (.getfield 138, 3) := by decide +kernel
theorem dX2_high_8 : decode cX2_high 8 = .ok (.ireturn, 1) := by decide +kernel
theorem dX2_right_0 : decode cX2_right 0 = .ok (.aload_n 0, 1) := by decide +kernel
theorem dX2_right_1 : decode cX2_right 1 = .ok (.iload_n 1, 1) := by decide +kernel
theorem dX2_right_2 : decode cX2_right 2 = .ok (.invokevirtual 123, 3) := by decide +kernel
theorem dX2_right_5 : decode cX2_right 5 = .ok (.getfield 71, 3) := by decide +kernel
theorem dX2_right_8 : decode cX2_right 8 = .ok (.invokestatic 134, 3) := by decide +kernel
theorem dX2_right_11 : decode cX2_right 11 = .ok (.ireturn, 1) := by decide +kernel
theorem dX2_links_0 : decode cX2_links 0 = .ok (.iload_n 1, 1) := by decide +kernel
theorem dX2_links_1 : decode cX2_links 1 = .ok (.invokestatic 38, 3) := by decide +kernel
theorem dX2_links_4 : decode cX2_links 4 = .ok (.iconst 0, 1) := by decide +kernel
theorem dX2_links_5 : decode cX2_links 5 = .ok (.istore_n 2, 1) := by decide +kernel
theorem dX2_links_6 : decode cX2_links 6 = .ok (.aload_n 0, 1) := by decide +kernel
theorem dX2_links_7 : decode cX2_links 7 = .ok (.getfield 35, 3) := by decide +kernel
theorem dX2_links_10 : decode cX2_links 10 = .ok (.astore_n 3, 1) := by decide +kernel
theorem dX2_links_11 : decode cX2_links 11 = .ok (.iconst 0, 1) := by decide +kernel
theorem dX2_links_12 : decode cX2_links 12 = .ok (.istore 4, 2) := by decide +kernel
theorem dX2_links_14 : decode cX2_links 14 = .ok (.iload 4, 2) := by decide +kernel
theorem dX2_links_16 : decode cX2_links 16 = .ok (.sipush 1024, 3) := by decide +kernel
theorem dX2_links_19 : decode cX2_links 19 = .ok (.if_icmp .ge 42, 3) := by decide +kernel
theorem dX2_links_22 : decode cX2_links 22 = .ok (.aload_n 3, 1) := by decide +kernel
theorem dX2_links_23 : decode cX2_links 23 = .ok (.iload_n 1, 1) := by decide +kernel
theorem dX2_links_24 : decode cX2_links 24 = .ok (.iconst 0, 1) := by decide +kernel
theorem dX2_links_25 : decode cX2_links 25 = .ok (.invokevirtual 141, 3) := by decide +kernel
theorem dX2_links_28 : decode cX2_links 28 = .ok (.astore 5, 2) := by decide +kernel
theorem dX2_links_30 : decode cX2_links 30 = .ok (.aload 5, 2) := by decide +kernel
theorem dX2_links_32 : decode cX2_links 32 = .ok (.ifnonnull 5, 3) := by decide +kernel
theorem dX2_links_35 : decode cX2_links 35 = .ok (.iload_n 2, 1) := by decide +kernel
theorem dX2_links_36 : decode cX2_links 36 = .ok (.ireturn, 1) := by decide +kernel
theorem dX2_links_37 : decode cX2_links 37 = .ok (.aload 5, 2) := by decide +kernel
theorem dX2_links_39 : decode cX2_links 39 = .ok (.getfield 92, 3) := by decide +kernel
theorem dX2_links_42 : decode cX2_links 42 = .ok (.aload_n 3, 1) := by decide +kernel
theorem dX2_links_43 : decode cX2_links 43 = .ok (.getfield 92, 3) := by decide +kernel
theorem dX2_links_46 : decode cX2_links 46 = .ok (.if_icmp .ne 6, 3) := by decide +kernel
theorem dX2_links_49 : decode cX2_links 49 = .ok (.iinc 2 1, 3) := by decide +kernel
theorem dX2_links_52 : decode cX2_links 52 = .ok (.aload 5, 2) := by decide +kernel
theorem dX2_links_54 : decode cX2_links 54 = .ok (.astore_n 3, 1) := by decide +kernel
theorem dX2_links_55 : decode cX2_links 55 = .ok (.iinc 4 1, 3) := by decide +kernel
theorem dX2_links_58 : decode cX2_links 58 = .ok (.goto (-44), 3) := by decide +kernel
theorem dX2_links_61 : decode cX2_links 61 = .ok (.iload_n 2, 1) := by decide +kernel
theorem dX2_links_62 : decode cX2_links 62 = .ok (.ireturn, 1) := by decide +kernel
theorem dX2_open_0 : decode cX2_open 0 = .ok (.iload_n 1, 1) := by decide +kernel
theorem dX2_open_1 : decode cX2_open 1 = .ok (.invokestatic 38, 3) := by decide +kernel
theorem dX2_open_4 : decode cX2_open 4 = .ok (.aload_n 0, 1) := by decide +kernel
theorem dX2_open_5 : decode cX2_open 5 = .ok (.getfield 144, 3) := by decide +kernel
theorem dX2_open_8 : decode cX2_open 8 = .ok (.aload_n 0, 1) := by decide +kernel
theorem dX2_open_9 : decode cX2_open 9 = .ok (.getfield 24, 3) := by decide +kernel
theorem dX2_open_12 : decode cX2_open 12 = .ok (.arraylength, 1) := by decide +kernel
theorem dX2_open_13 : decode cX2_open 13 = .ok (.if_icmp .lt 13, 3) := by decide +kernel
theorem dX2_open_16 : decode cX2_open 16 = .ok (.new 82, 3) := by decide +kernel
theorem dX2_open_19 : decode cX2_open 19 = .ok (.dup, 1) := by decide +kernel
theorem dX2_open_20 : decode cX2_open 20 = .ok (.ldc 147, 2) := by decide +kernel
theorem dX2_open_22 : decode cX2_open 22 = .ok (.invokespecial 86, 3) := by decide +kernel
theorem dX2_open_25 : decode cX2_open 25 = .ok (.athrow, 1) := by decide +kernel
theorem dX2_open_26 : decode cX2_open 26 = .ok (.aload_n 0, 1) := by decide +kernel
theorem dX2_open_27 : decode cX2_open 27 = .ok (.getfield 144, 3) := by decide +kernel
theorem dX2_open_30 : decode cX2_open 30 = .ok (.istore_n 2, 1) := by decide +kernel
theorem dX2_open_31 : decode cX2_open 31 = .ok (.aload_n 0, 1) := by decide +kernel
theorem dX2_open_32 : decode cX2_open 32 = .ok (.getfield 24, 3) := by decide +kernel
theorem dX2_open_35 : decode cX2_open 35 = .ok (.iload_n 2, 1) := by decide +kernel
theorem dX2_open_36 : decode cX2_open 36 = .ok (.new 22, 3) := by decide +kernel
theorem dX2_open_39 : decode cX2_open 39 = .ok (.dup, 1) := by decide +kernel
theorem dX2_open_40 : decode cX2_open 40 = .ok (.aload_n 0, 1) := by decide +kernel
theorem dX2_open_41 : decode cX2_open 41 = .ok (.iload_n 1, 1) := by decide +kernel
theorem dX2_open_42 : decode cX2_open 42 = .ok (.iconst 0, 1) := by decide +kernel
theorem dX2_open_43 : decode cX2_open 43 = .ok (.invokevirtual 45, 3) := by decide +kernel
theorem dX2_open_46 : decode cX2_open 46 = .ok (.iload_n 1, 1) := by decide +kernel
theorem dX2_open_47 : decode cX2_open 47 = .ok (.iconst 1, 1) := by decide +kernel
theorem dX2_open_48 : decode cX2_open 48 = .ok (.isub, 1) := by decide +kernel
theorem dX2_open_49 : decode cX2_open 49 = .ok (.aload_n 0, 1) := by decide +kernel
theorem dX2_open_50 : decode cX2_open 50 = .ok (.getfield 120, 3) := by decide +kernel
theorem dX2_open_53 : decode cX2_open 53 = .ok (.invokespecial 149, 3) := by decide +kernel
theorem dX2_open_56 : decode cX2_open 56 = .ok (.aastore, 1) := by decide +kernel
theorem dX2_open_57 : decode cX2_open 57 = .ok (.aload_n 0, 1) := by decide +kernel
theorem dX2_open_58 : decode cX2_open 58 = .ok (.dup, 1) := by decide +kernel
theorem dX2_open_59 : decode cX2_open 59 = .ok (.getfield 144, 3) := by decide +kernel
theorem dX2_open_62 : decode cX2_open 62 = .ok (.iconst 1, 1) := by decide +kernel
theorem dX2_open_63 : decode cX2_open 63 = .ok (.iadd, 1) := by decide +kernel
theorem dX2_open_64 : decode cX2_open 64 = .ok (.putfield 144, 3) := by decide +kernel
theorem dX2_open_67 : decode cX2_open 67 = .ok (.iload_n 2, 1) := by decide +kernel
theorem dX2_open_68 : decode cX2_open 68 = .ok (.ireturn, 1) := by decide +kernel
theorem dX2_next_0 : decode cX2_next 0 = .ok (.aload_n 0, 1) := by decide +kernel
theorem dX2_next_1 : decode cX2_next 1 = .ok (.iload_n 1, 1) := by decide +kernel
theorem dX2_next_2 : decode cX2_next 2 = .ok (.invokevirtual 152, 3) := by decide +kernel
theorem dX2_next_5 : decode cX2_next 5 = .ok (.invokevirtual 156, 3) := by decide +kernel
theorem dX2_next_8 : decode cX2_next 8 = .ok (.ireturn, 1) := by decide +kernel
theorem dX2_close_0 : decode cX2_close 0 = .ok (.aload_n 0, 1) := by decide +kernel
theorem dX2_close_1 : decode cX2_close 1 = .ok (.iload_n 1, 1) := by decide +kernel
theorem dX2_close_2 : decode cX2_close 2 = .ok (.invokevirtual 152, 3) := by decide +kernel
theorem dX2_close_5 : decode cX2_close 5 = .ok (.iconst 1, 1) := by decide +kernel
theorem dX2_close_6 : decode cX2_close 6 = .ok (.putfield 162, 3) := by decide +kernel
theorem dX2_close_9 : decode cX2_close 9 = .ok (.iconst 0, 1) := by decide +kernel
theorem dX2_close_10 : decode cX2_close 10 = .ok (.istore_n 2, 1) := by decide +kernel
theorem dX2_close_11 : decode cX2_close 11 = .ok (.aload_n 0, 1) := by decide +kernel
theorem dX2_close_12 : decode cX2_close 12 = .ok (.getfield 24, 3) := by decide +kernel
theorem dX2_close_15 : decode cX2_close 15 = .ok (.astore_n 3, 1) := by decide +kernel
theorem dX2_close_16 : decode cX2_close 16 = .ok (.aload_n 3, 1) := by decide +kernel
theorem dX2_close_17 : decode cX2_close 17 = .ok (.arraylength, 1) := by decide +kernel
theorem dX2_close_18 : decode cX2_close 18 = .ok (.istore 4, 2) := by decide +kernel
theorem dX2_close_20 : decode cX2_close 20 = .ok (.iconst 0, 1) := by decide +kernel
theorem dX2_close_21 : decode cX2_close 21 = .ok (.istore 5, 2) := by decide +kernel
theorem dX2_close_23 : decode cX2_close 23 = .ok (.iload 5, 2) := by decide +kernel
theorem dX2_close_25 : decode cX2_close 25 = .ok (.iload 4, 2) := by decide +kernel
theorem dX2_close_27 : decode cX2_close 27 = .ok (.if_icmp .ge 31, 3) := by decide +kernel
theorem dX2_close_30 : decode cX2_close 30 = .ok (.aload_n 3, 1) := by decide +kernel
theorem dX2_close_31 : decode cX2_close 31 = .ok (.iload 5, 2) := by decide +kernel
theorem dX2_close_33 : decode cX2_close 33 = .ok (.aaload, 1) := by decide +kernel
theorem dX2_close_34 : decode cX2_close 34 = .ok (.astore 6, 2) := by decide +kernel
theorem dX2_close_36 : decode cX2_close 36 = .ok (.aload 6, 2) := by decide +kernel
theorem dX2_close_38 : decode cX2_close 38 = .ok (.ifnull 14, 3) := by decide +kernel
theorem dX2_close_41 : decode cX2_close 41 = .ok (.aload 6, 2) := by decide +kernel
theorem dX2_close_43 : decode cX2_close 43 = .ok (.getfield 162, 3) := by decide +kernel
theorem dX2_close_46 : decode cX2_close 46 = .ok (.ifCond .ne 6, 3) := by decide +kernel
theorem dX2_close_49 : decode cX2_close 49 = .ok (.iinc 2 1, 3) := by decide +kernel
theorem dX2_close_52 : decode cX2_close 52 = .ok (.iinc 5 1, 3) := by decide +kernel
theorem dX2_close_55 : decode cX2_close 55 = .ok (.goto (-32), 3) := by decide +kernel
theorem dX2_close_58 : decode cX2_close 58 = .ok (.iload_n 2, 1) := by decide +kernel
theorem dX2_close_59 : decode cX2_close 59 = .ok (.ireturn, 1) := by decide +kernel
theorem dX2_checkKey_0 : decode cX2_checkKey 0 = .ok (.iload_n 0, 1) := by decide +kernel
theorem dX2_checkKey_1 : decode cX2_checkKey 1 = .ok (.ifCond .lt 10, 3) := by decide +kernel
theorem dX2_checkKey_4 : decode cX2_checkKey 4 = .ok (.iload_n 0, 1) := by decide +kernel
theorem dX2_checkKey_5 : decode cX2_checkKey 5 = .ok (.sipush 200, 3) := by decide +kernel
theorem dX2_checkKey_8 : decode cX2_checkKey 8 = .ok (.if_icmp .lt 13, 3) := by decide +kernel
theorem dX2_checkKey_11 : decode cX2_checkKey 11 = .ok (.new 165, 3) := by decide +kernel
theorem dX2_checkKey_14 : decode cX2_checkKey 14 = .ok (.dup, 1) := by decide +kernel
theorem dX2_checkKey_15 : decode cX2_checkKey 15 = .ok (.ldc 167, 2) := by decide +kernel
theorem dX2_checkKey_17 : decode cX2_checkKey 17 = .ok (.invokespecial 169, 3) := by decide +kernel
theorem dX2_checkKey_20 : decode cX2_checkKey 20 = .ok (.athrow, 1) := by decide +kernel
theorem dX2_checkKey_21 : decode cX2_checkKey 21 = .ok (.return_, 1) := by decide +kernel
theorem dX2_checkValue_0 : decode cX2_checkValue 0 = .ok (.iload_n 0, 1) := by decide +kernel
theorem dX2_checkValue_1 : decode cX2_checkValue 1 = .ok (.ifCond .lt 10, 3) := by decide +kernel
theorem dX2_checkValue_4 : decode cX2_checkValue 4 = .ok (.iload_n 0, 1) := by decide +kernel
theorem dX2_checkValue_5 : decode cX2_checkValue 5 = .ok (.sipush 10000, 3) := by decide +kernel
theorem dX2_checkValue_8 : decode cX2_checkValue 8 = .ok (.if_icmp .lt 13, 3) := by decide +kernel
theorem dX2_checkValue_11 : decode cX2_checkValue 11 = .ok (.new 165, 3) := by decide +kernel
theorem dX2_checkValue_14 : decode cX2_checkValue 14 = .ok (.dup, 1) := by decide +kernel
theorem dX2_checkValue_15 : decode cX2_checkValue 15 = .ok (.ldc 170, 2) := by decide +kernel
theorem dX2_checkValue_17 : decode cX2_checkValue 17 = .ok (.invokespecial 169, 3) := by decide +kernel
theorem dX2_checkValue_20 : decode cX2_checkValue 20 = .ok (.athrow, 1) := by decide +kernel
theorem dX2_checkValue_21 : decode cX2_checkValue 21 = .ok (.return_, 1) := by decide +kernel
theorem dX2_checkPlace_0 : decode cX2_checkPlace 0 = .ok (.iload_n 0, 1) := by decide +kernel
theorem dX2_checkPlace_1 : decode cX2_checkPlace 1 = .ok (.ifCond .ge 13, 3) := by decide +kernel
theorem dX2_checkPlace_4 : decode cX2_checkPlace 4 = .ok (.new 172, 3) := by decide +kernel
theorem dX2_checkPlace_7 : decode cX2_checkPlace 7 = .ok (.dup, 1) := by decide +kernel
theorem dX2_checkPlace_8 : decode cX2_checkPlace 8 = .ok (.ldc 174, 2) := by decide +kernel
theorem dX2_checkPlace_10 : decode cX2_checkPlace 10 = .ok (.invokespecial 176, 3) := by decide +kernel
theorem dX2_checkPlace_13 : decode cX2_checkPlace 13 = .ok (.athrow, 1) := by decide +kernel
theorem dX2_checkPlace_14 : decode cX2_checkPlace 14 = .ok (.return_, 1) := by decide +kernel
theorem dX2_pageOf_0 : decode cX2_pageOf 0 = .ok (.iload_n 1, 1) := by decide +kernel
theorem dX2_pageOf_1 : decode cX2_pageOf 1 = .ok (.ifCond .lt 21, 3) := by decide +kernel
theorem dX2_pageOf_4 : decode cX2_pageOf 4 = .ok (.iload_n 1, 1) := by decide +kernel
theorem dX2_pageOf_5 : decode cX2_pageOf 5 = .ok (.aload_n 0, 1) := by decide +kernel
theorem dX2_pageOf_6 : decode cX2_pageOf 6 = .ok (.getfield 11, 3) := by decide +kernel
theorem dX2_pageOf_9 : decode cX2_pageOf 9 = .ok (.arraylength, 1) := by decide +kernel
theorem dX2_pageOf_10 : decode cX2_pageOf 10 = .ok (.if_icmp .ge 12, 3) := by decide +kernel
theorem dX2_pageOf_13 : decode cX2_pageOf 13 = .ok (.aload_n 0, 1) := by decide +kernel
theorem dX2_pageOf_14 : decode cX2_pageOf 14 = .ok (.getfield 11, 3) := by decide +kernel
theorem dX2_pageOf_17 : decode cX2_pageOf 17 = .ok (.iload_n 1, 1) := by decide +kernel
theorem dX2_pageOf_18 : decode cX2_pageOf 18 = .ok (.aaload, 1) := by decide +kernel
theorem dX2_pageOf_19 : decode cX2_pageOf 19 = .ok (.goto 4, 3) := by decide +kernel
theorem dX2_pageOf_22 : decode cX2_pageOf 22 = .ok (.aconst_null, 1) := by decide +kernel
theorem dX2_pageOf_23 : decode cX2_pageOf 23 = .ok (.astore_n 2, 1) := by decide +kernel
theorem dX2_pageOf_24 : decode cX2_pageOf 24 = .ok (.aload_n 2, 1) := by decide +kernel
theorem dX2_pageOf_25 : decode cX2_pageOf 25 = .ok (.ifnonnull 13, 3) := by decide +kernel
theorem dX2_pageOf_28 : decode cX2_pageOf 28 = .ok (.new 172, 3) := by decide +kernel
theorem dX2_pageOf_31 : decode cX2_pageOf 31 = .ok (.dup, 1) := by decide +kernel
theorem dX2_pageOf_32 : decode cX2_pageOf 32 = .ok (.ldc 177, 2) := by decide +kernel
theorem dX2_pageOf_34 : decode cX2_pageOf 34 = .ok (.invokespecial 176, 3) := by decide +kernel
theorem dX2_pageOf_37 : decode cX2_pageOf 37 = .ok (.athrow, 1) := by decide +kernel
theorem dX2_pageOf_38 : decode cX2_pageOf 38 = .ok (.aload_n 2, 1) := by decide +kernel
theorem dX2_pageOf_39 : decode cX2_pageOf 39 = .ok (.areturn, 1) := by decide +kernel
theorem dX2_cursorOf_0 : decode cX2_cursorOf 0 = .ok (.iload_n 1, 1) := by decide +kernel
theorem dX2_cursorOf_1 : decode cX2_cursorOf 1 = .ok (.ifCond .lt 21, 3) := by decide +kernel
theorem dX2_cursorOf_4 : decode cX2_cursorOf 4 = .ok (.iload_n 1, 1) := by decide +kernel
theorem dX2_cursorOf_5 : decode cX2_cursorOf 5 = .ok (.aload_n 0, 1) := by decide +kernel
theorem dX2_cursorOf_6 : decode cX2_cursorOf 6 = .ok (.getfield 24, 3) := by decide +kernel
theorem dX2_cursorOf_9 : decode cX2_cursorOf 9 = .ok (.arraylength, 1) := by decide +kernel
theorem dX2_cursorOf_10 : decode cX2_cursorOf 10 = .ok (.if_icmp .ge 12, 3) := by decide +kernel
theorem dX2_cursorOf_13 : decode cX2_cursorOf 13 = .ok (.aload_n 0, 1) := by decide +kernel
theorem dX2_cursorOf_14 : decode cX2_cursorOf 14 = .ok (.getfield 24, 3) := by decide +kernel
theorem dX2_cursorOf_17 : decode cX2_cursorOf 17 = .ok (.iload_n 1, 1) := by decide +kernel
theorem dX2_cursorOf_18 : decode cX2_cursorOf 18 = .ok (.aaload, 1) := by decide +kernel
theorem dX2_cursorOf_19 : decode cX2_cursorOf 19 = .ok (.goto 4, 3) := by decide +kernel
theorem dX2_cursorOf_22 : decode cX2_cursorOf 22 = .ok (.aconst_null, 1) := by decide +kernel
theorem dX2_cursorOf_23 : decode cX2_cursorOf 23 = .ok (.astore_n 2, 1) := by decide +kernel
theorem dX2_cursorOf_24 : decode cX2_cursorOf 24 = .ok (.aload_n 2, 1) := by decide +kernel
theorem dX2_cursorOf_25 : decode cX2_cursorOf 25 = .ok (.ifnull 10, 3) := by decide +kernel
theorem dX2_cursorOf_28 : decode cX2_cursorOf 28 = .ok (.aload_n 2, 1) := by decide +kernel
theorem dX2_cursorOf_29 : decode cX2_cursorOf 29 = .ok (.getfield 162, 3) := by decide +kernel
theorem dX2_cursorOf_32 : decode cX2_cursorOf 32 = .ok (.ifCond .eq 13, 3) := by decide +kernel
theorem dX2_cursorOf_35 : decode cX2_cursorOf 35 = .ok (.new 172, 3) := by decide +kernel
theorem dX2_cursorOf_38 : decode cX2_cursorOf 38 = .ok (.dup, 1) := by decide +kernel
theorem dX2_cursorOf_39 : decode cX2_cursorOf 39 = .ok (.ldc 179, 2) := by decide +kernel
theorem dX2_cursorOf_41 : decode cX2_cursorOf 41 = .ok (.invokespecial 176, 3) := by decide +kernel
theorem dX2_cursorOf_44 : decode cX2_cursorOf 44 = .ok (.athrow, 1) := by decide +kernel
theorem dX2_cursorOf_45 : decode cX2_cursorOf 45 = .ok (.aload_n 2, 1) := by decide +kernel
theorem dX2_cursorOf_46 : decode cX2_cursorOf 46 = .ok (.areturn, 1) := by decide +kernel
theorem dX2_numberOf_0 : decode cX2_numberOf 0 = .ok (.aload_n 0, 1) := by decide +kernel
theorem dX2_numberOf_1 : decode cX2_numberOf 1 = .ok (.ifnonnull 7, 3) := by decide +kernel
theorem dX2_numberOf_4 : decode cX2_numberOf 4 = .ok (.iconst (-1), 1) := by decide +kernel
theorem dX2_numberOf_5 : decode cX2_numberOf 5 = .ok (.goto 7, 3) := by decide +kernel
theorem dX2_numberOf_8 : decode cX2_numberOf 8 = .ok (.aload_n 0, 1) := by decide +kernel
theorem dX2_numberOf_9 : decode cX2_numberOf 9 = .ok (.getfield 106, 3) := by decide +kernel
theorem dX2_numberOf_12 : decode cX2_numberOf 12 = .ok (.ireturn, 1) := by decide +kernel
theorem dX2_goDown_0 : decode cX2_goDown 0 = .ok (.aload_n 0, 1) := by decide +kernel
theorem dX2_goDown_1 : decode cX2_goDown 1 = .ok (.getfield 35, 3) := by decide +kernel
theorem dX2_goDown_4 : decode cX2_goDown 4 = .ok (.astore_n 3, 1) := by decide +kernel
theorem dX2_goDown_5 : decode cX2_goDown 5 = .ok (.iconst 0, 1) := by decide +kernel
theorem dX2_goDown_6 : decode cX2_goDown 6 = .ok (.istore 4, 2) := by decide +kernel
theorem dX2_goDown_8 : decode cX2_goDown 8 = .ok (.iload 4, 2) := by decide +kernel
theorem dX2_goDown_10 : decode cX2_goDown 10 = .ok (.sipush 1024, 3) := by decide +kernel
theorem dX2_goDown_13 : decode cX2_goDown 13 = .ok (.if_icmp .ge 27, 3) := by decide +kernel
theorem dX2_goDown_16 : decode cX2_goDown 16 = .ok (.aload_n 3, 1) := by decide +kernel
theorem dX2_goDown_17 : decode cX2_goDown 17 = .ok (.iload_n 1, 1) := by decide +kernel
theorem dX2_goDown_18 : decode cX2_goDown 18 = .ok (.iload_n 2, 1) := by decide +kernel
theorem dX2_goDown_19 : decode cX2_goDown 19 = .ok (.invokevirtual 141, 3) := by decide +kernel
theorem dX2_goDown_22 : decode cX2_goDown 22 = .ok (.astore 5, 2) := by decide +kernel
theorem dX2_goDown_24 : decode cX2_goDown 24 = .ok (.aload 5, 2) := by decide +kernel
theorem dX2_goDown_26 : decode cX2_goDown 26 = .ok (.ifnonnull 5, 3) := by decide +kernel
theorem dX2_goDown_29 : decode cX2_goDown 29 = .ok (.aload_n 3, 1) := by decide +kernel
theorem dX2_goDown_30 : decode cX2_goDown 30 = .ok (.areturn, 1) := by decide +kernel
theorem dX2_goDown_31 : decode cX2_goDown 31 = .ok (.aload 5, 2) := by decide +kernel
theorem dX2_goDown_33 : decode cX2_goDown 33 = .ok (.astore_n 3, 1) := by decide +kernel
theorem dX2_goDown_34 : decode cX2_goDown 34 = .ok (.iinc 4 1, 3) := by decide +kernel
theorem dX2_goDown_37 : decode cX2_goDown 37 = .ok (.goto (-29), 3) := by decide +kernel
theorem dX2_goDown_40 : decode cX2_goDown 40 = .ok (.aload_n 3, 1) := by decide +kernel
theorem dX2_goDown_41 : decode cX2_goDown 41 = .ok (.areturn, 1) := by decide +kernel
theorem dX2_lowestFreeNumber_0 : decode cX2_lowestFreeNumber 0 = .ok (.iconst 0, 1) := by decide +kernel
theorem dX2_lowestFreeNumber_1 : decode cX2_lowestFreeNumber 1 = .ok (.istore_n 1, 1) := by decide +kernel
theorem dX2_lowestFreeNumber_2 : decode cX2_lowestFreeNumber 2 = .ok (.iload_n 1, 1) := by decide +kernel
theorem dX2_lowestFreeNumber_3 : decode cX2_lowestFreeNumber 3 = .ok (.aload_n 0, 1) := by decide +kernel
theorem dX2_lowestFreeNumber_4 : decode cX2_lowestFreeNumber 4 = .ok (.getfield 11, 3) := by decide +kernel
theorem dX2_lowestFreeNumber_7 : decode cX2_lowestFreeNumber 7 = .ok (.arraylength, 1) := by decide +kernel
theorem dX2_lowestFreeNumber_8 : decode cX2_lowestFreeNumber 8 = .ok (.if_icmp .ge 20, 3) := by decide +kernel
theorem dX2_lowestFreeNumber_11 : decode cX2_lowestFreeNumber 11 = .ok (.aload_n 0, 1) := by decide +kernel
theorem dX2_lowestFreeNumber_12 : decode cX2_lowestFreeNumber 12 = .ok (.getfield 11, 3) := by decide +kernel
theorem dX2_lowestFreeNumber_15 : decode cX2_lowestFreeNumber 15 = .ok (.iload_n 1, 1) := by decide +kernel
theorem dX2_lowestFreeNumber_16 : decode cX2_lowestFreeNumber 16 = .ok (.aaload, 1) := by decide +kernel
theorem dX2_lowestFreeNumber_17 : decode cX2_lowestFreeNumber 17 = .ok (.ifnonnull 5, 3) := by decide +kernel
theorem dX2_lowestFreeNumber_20 : decode cX2_lowestFreeNumber 20 = .ok (.iload_n 1, 1) := by decide +kernel
theorem dX2_lowestFreeNumber_21 : decode cX2_lowestFreeNumber 21 = .ok (.ireturn, 1) := by decide +kernel
theorem dX2_lowestFreeNumber_22 : decode cX2_lowestFreeNumber 22 = .ok (.iinc 1 1, 3) := by decide +kernel
theorem dX2_lowestFreeNumber_25 : decode cX2_lowestFreeNumber 25 = .ok (.goto (-23), 3) := by decide +kernel
theorem dX2_lowestFreeNumber_28 : decode cX2_lowestFreeNumber 28 = .ok (.iconst (-1), 1) := by decide +kernel
theorem dX2_lowestFreeNumber_29 : decode cX2_lowestFreeNumber 29 = .ok (.ireturn, 1) := by decide +kernel
theorem dX2_addTo_0 : decode cX2_addTo 0 = .ok (.aload_n 1, 1) := by decide +kernel
theorem dX2_addTo_1 : decode cX2_addTo 1 = .ok (.getfield 126, 3) := by decide +kernel
theorem dX2_addTo_4 : decode cX2_addTo 4 = .ok (.iconst 4, 1) := by decide +kernel
theorem dX2_addTo_5 : decode cX2_addTo 5 = .ok (.if_icmp .ge 13, 3) := by decide +kernel
theorem dX2_addTo_8 : decode cX2_addTo 8 = .ok (.aload_n 1, 1) := by decide +kernel
theorem dX2_addTo_9 : decode cX2_addTo 9 = .ok (.iload_n 2, 1) := by decide +kernel
theorem dX2_addTo_10 : decode cX2_addTo 10 = .ok (.iload_n 3, 1) := by decide +kernel
theorem dX2_addTo_11 : decode cX2_addTo 11 = .ok (.aload 4, 2) := by decide +kernel
theorem dX2_addTo_13 : decode cX2_addTo 13 = .ok (.invokevirtual 181, 3) := by decide +kernel
theorem dX2_addTo_16 : decode cX2_addTo 16 = .ok (.iconst 1, 1) := by decide +kernel
theorem dX2_addTo_17 : decode cX2_addTo 17 = .ok (.ireturn, 1) := by decide +kernel
theorem dX2_addTo_18 : decode cX2_addTo 18 = .ok (.aload_n 0, 1) := by decide +kernel
theorem dX2_addTo_19 : decode cX2_addTo 19 = .ok (.invokevirtual 185, 3) := by decide +kernel
theorem dX2_addTo_22 : decode cX2_addTo 22 = .ok (.istore 5, 2) := by decide +kernel
theorem dX2_addTo_24 : decode cX2_addTo 24 = .ok (.iload 5, 2) := by decide +kernel
theorem dX2_addTo_26 : decode cX2_addTo 26 = .ok (.ifCond .lt 13, 3) := by decide +kernel
theorem dX2_addTo_29 : decode cX2_addTo 29 = .ok (.iload 5, 2) := by decide +kernel
theorem dX2_addTo_31 : decode cX2_addTo 31 = .ok (.aload_n 0, 1) := by decide +kernel
theorem dX2_addTo_32 : decode cX2_addTo 32 = .ok (.getfield 11, 3) := by decide +kernel
theorem dX2_addTo_35 : decode cX2_addTo 35 = .ok (.arraylength, 1) := by decide +kernel
theorem dX2_addTo_36 : decode cX2_addTo 36 = .ok (.if_icmp .lt 5, 3) := by decide +kernel
theorem dX2_addTo_39 : decode cX2_addTo 39 = .ok (.iconst 0, 1) := by decide +kernel
theorem dX2_addTo_40 : decode cX2_addTo 40 = .ok (.ireturn, 1) := by decide +kernel
theorem dX2_addTo_41 : decode cX2_addTo 41 = .ok (.aload_n 1, 1) := by decide +kernel
theorem dX2_addTo_42 : decode cX2_addTo 42 = .ok (.iload_n 2, 1) := by decide +kernel
theorem dX2_addTo_43 : decode cX2_addTo 43 = .ok (.iload_n 3, 1) := by decide +kernel
theorem dX2_addTo_44 : decode cX2_addTo 44 = .ok (.aload 4, 2) := by decide +kernel
theorem dX2_addTo_46 : decode cX2_addTo 46 = .ok (.invokevirtual 181, 3) := by decide +kernel
theorem dX2_addTo_49 : decode cX2_addTo 49 = .ok (.aload_n 1, 1) := by decide +kernel
theorem dX2_addTo_50 : decode cX2_addTo 50 = .ok (.iload 5, 2) := by decide +kernel
theorem dX2_addTo_52 : decode cX2_addTo 52 = .ok (.invokevirtual 188, 3) := by decide +kernel
theorem dX2_addTo_55 : decode cX2_addTo 55 = .ok (.astore 6, 2) := by decide +kernel
theorem dX2_addTo_57 : decode cX2_addTo 57 = .ok (.aload_n 0, 1) := by decide +kernel
theorem dX2_addTo_58 : decode cX2_addTo 58 = .ok (.getfield 11, 3) := by decide +kernel
theorem dX2_addTo_61 : decode cX2_addTo 61 = .ok (.iload 5, 2) := by decide +kernel
theorem dX2_addTo_63 : decode cX2_addTo 63 = .ok (.aload 6, 2) := by decide +kernel
theorem dX2_addTo_65 : decode cX2_addTo 65 = .ok (.aastore, 1) := by decide +kernel
theorem dX2_addTo_66 : decode cX2_addTo 66 = .ok (.aload_n 0, 1) := by decide +kernel
theorem dX2_addTo_67 : decode cX2_addTo 67 = .ok (.getfield 18, 3) := by decide +kernel
theorem dX2_addTo_70 : decode cX2_addTo 70 = .ok (.aload 6, 2) := by decide +kernel
theorem dX2_addTo_72 : decode cX2_addTo 72 = .ok (.invokevirtual 191, 3) := by decide +kernel
theorem dX2_addTo_75 : decode cX2_addTo 75 = .ok (.pop, 1) := by decide +kernel
theorem dX2_addTo_76 : decode cX2_addTo 76 = .ok (.iconst 1, 1) := by decide +kernel
theorem dX2_addTo_77 : decode cX2_addTo 77 = .ok (.ireturn, 1) := by decide +kernel
theorem dX2_postLongestWaiting_0 : decode cX2_postLongestWaiting 0 = .ok (.aload_n 0, 1) := by decide +kernel
theorem dX2_postLongestWaiting_1 : decode cX2_postLongestWaiting 1 = .ok (.getfield 18, 3) := by decide +kernel
theorem dX2_postLongestWaiting_4 : decode cX2_postLongestWaiting 4 = .ok (.invokevirtual 78, 3) := by decide +kernel
theorem dX2_postLongestWaiting_7 : decode cX2_postLongestWaiting 7 = .ok (.ifCond .eq 4, 3) := by decide +kernel
theorem dX2_postLongestWaiting_10 : decode cX2_postLongestWaiting 10 = .ok (.return_, 1) := by decide +kernel
theorem dX2_postLongestWaiting_11 : decode cX2_postLongestWaiting 11 = .ok (.aload_n 0, 1) := by decide +kernel
theorem dX2_postLongestWaiting_12 : decode cX2_postLongestWaiting 12 = .ok (.getfield 18, 3) := by decide +kernel
theorem dX2_postLongestWaiting_15 : decode cX2_postLongestWaiting 15 = .ok (.iconst 0, 1) := by decide +kernel
theorem dX2_postLongestWaiting_16 : decode cX2_postLongestWaiting 16 = .ok (.invokevirtual 195, 3) := by decide +kernel
theorem dX2_postLongestWaiting_19 : decode cX2_postLongestWaiting 19 = .ok (.checkcast 9, 3) := by decide +kernel
theorem dX2_postLongestWaiting_22 : decode cX2_postLongestWaiting 22 = .ok (.astore_n 1, 1) := by decide +kernel
theorem dX2_postLongestWaiting_23 : decode cX2_postLongestWaiting 23 = .ok (.aload_n 1, 1) := by decide +kernel
theorem dX2_postLongestWaiting_24 : decode cX2_postLongestWaiting 24 = .ok (.getfield 92, 3) := by decide +kernel
theorem dX2_postLongestWaiting_27 : decode cX2_postLongestWaiting 27 = .ok (.aload_n 0, 1) := by decide +kernel
theorem dX2_postLongestWaiting_28 : decode cX2_postLongestWaiting 28 = .ok (.getfield 35, 3) := by decide +kernel
theorem dX2_postLongestWaiting_31 : decode cX2_postLongestWaiting 31 = .ok (.getfield 92, 3) := by decide +kernel
theorem dX2_postLongestWaiting_34 : decode cX2_postLongestWaiting 34 = .ok (.if_icmp .ne 11, 3) := by decide +kernel
theorem dX2_postLongestWaiting_37 : decode cX2_postLongestWaiting 37 = .ok (.aload_n 0, 1) := by decide +kernel
theorem dX2_postLongestWaiting_38 : decode cX2_postLongestWaiting 38 = .ok (.aload_n 1, 1) := by decide +kernel
theorem dX2_postLongestWaiting_39 : decode cX2_postLongestWaiting 39 = .ok (.invokevirtual 199, 3) := by decide +kernel
theorem dX2_postLongestWaiting_42 : decode cX2_postLongestWaiting 42 = .ok (.goto 28, 3) := by decide +kernel
theorem dX2_postLongestWaiting_45 : decode cX2_postLongestWaiting 45 = .ok (.aload_n 0, 1) := by decide +kernel
theorem dX2_postLongestWaiting_46 : decode cX2_postLongestWaiting 46 = .ok (.aload_n 0, 1) := by decide +kernel
theorem dX2_postLongestWaiting_47 : decode cX2_postLongestWaiting 47 = .ok (.aload_n 1, 1) := by decide +kernel
theorem dX2_postLongestWaiting_48 : decode cX2_postLongestWaiting 48 = .ok (.getfield 202, 3) := by decide +kernel
theorem dX2_postLongestWaiting_51 : decode cX2_postLongestWaiting 51 = .ok (.aload_n 1, 1) := by decide +kernel
theorem dX2_postLongestWaiting_52 : decode cX2_postLongestWaiting 52 = .ok (.getfield 92, 3) := by decide +kernel
theorem dX2_postLongestWaiting_55 : decode cX2_postLongestWaiting 55 = .ok (.iconst 1, 1) := by decide +kernel
theorem dX2_postLongestWaiting_56 : decode cX2_postLongestWaiting 56 = .ok (.iadd, 1) := by decide +kernel
theorem dX2_postLongestWaiting_57 : decode cX2_postLongestWaiting 57 = .ok (.invokevirtual 45, 3) := by decide +kernel
theorem dX2_postLongestWaiting_60 : decode cX2_postLongestWaiting 60 = .ok (.aload_n 1, 1) := by decide +kernel
theorem dX2_postLongestWaiting_61 : decode cX2_postLongestWaiting 61 = .ok (.getfield 202, 3) := by decide +kernel
theorem dX2_postLongestWaiting_64 : decode cX2_postLongestWaiting 64 = .ok (.iconst (-1), 1) := by decide +kernel
theorem dX2_postLongestWaiting_65 : decode cX2_postLongestWaiting 65 = .ok (.aload_n 1, 1) := by decide +kernel
theorem dX2_postLongestWaiting_66 : decode cX2_postLongestWaiting 66 = .ok (.invokevirtual 57, 3) := by decide +kernel
theorem dX2_postLongestWaiting_69 : decode cX2_postLongestWaiting 69 = .ok (.pop, 1) := by decide +kernel
theorem dX2_postLongestWaiting_70 : decode cX2_postLongestWaiting 70 = .ok (.return_, 1) := by decide +kernel
theorem dX2_growRoot_0 : decode cX2_growRoot 0 = .ok (.aload_n 0, 1) := by decide +kernel
theorem dX2_growRoot_1 : decode cX2_growRoot 1 = .ok (.invokevirtual 185, 3) := by decide +kernel
theorem dX2_growRoot_4 : decode cX2_growRoot 4 = .ok (.istore_n 2, 1) := by decide +kernel
theorem dX2_growRoot_5 : decode cX2_growRoot 5 = .ok (.iload_n 2, 1) := by decide +kernel
theorem dX2_growRoot_6 : decode cX2_growRoot 6 = .ok (.ifCond .lt 12, 3) := by decide +kernel
theorem dX2_growRoot_9 : decode cX2_growRoot 9 = .ok (.iload_n 2, 1) := by decide +kernel
theorem dX2_growRoot_10 : decode cX2_growRoot 10 = .ok (.aload_n 0, 1) := by decide +kernel
theorem dX2_growRoot_11 : decode cX2_growRoot 11 = .ok (.getfield 11, 3) := by decide +kernel
theorem dX2_growRoot_14 : decode cX2_growRoot 14 = .ok (.arraylength, 1) := by decide +kernel
theorem dX2_growRoot_15 : decode cX2_growRoot 15 = .ok (.if_icmp .lt 4, 3) := by decide +kernel
theorem dX2_growRoot_18 : decode cX2_growRoot 18 = .ok (.return_, 1) := by decide +kernel
theorem dX2_growRoot_19 : decode cX2_growRoot 19 = .ok (.new 9, 3) := by decide +kernel
theorem dX2_growRoot_22 : decode cX2_growRoot 22 = .ok (.dup, 1) := by decide +kernel
theorem dX2_growRoot_23 : decode cX2_growRoot 23 = .ok (.iload_n 2, 1) := by decide +kernel
theorem dX2_growRoot_24 : decode cX2_growRoot 24 = .ok (.aload_n 0, 1) := by decide +kernel
theorem dX2_growRoot_25 : decode cX2_growRoot 25 = .ok (.getfield 35, 3) := by decide +kernel
theorem dX2_growRoot_28 : decode cX2_growRoot 28 = .ok (.getfield 92, 3) := by decide +kernel
theorem dX2_growRoot_31 : decode cX2_growRoot 31 = .ok (.iconst 1, 1) := by decide +kernel
theorem dX2_growRoot_32 : decode cX2_growRoot 32 = .ok (.iadd, 1) := by decide +kernel
theorem dX2_growRoot_33 : decode cX2_growRoot 33 = .ok (.iconst 0, 1) := by decide +kernel
theorem dX2_growRoot_34 : decode cX2_growRoot 34 = .ok (.sipush 200, 3) := by decide +kernel
theorem dX2_growRoot_37 : decode cX2_growRoot 37 = .ok (.invokespecial 28, 3) := by decide +kernel
theorem dX2_growRoot_40 : decode cX2_growRoot 40 = .ok (.astore_n 3, 1) := by decide +kernel
theorem dX2_growRoot_41 : decode cX2_growRoot 41 = .ok (.aload_n 3, 1) := by decide +kernel
theorem dX2_growRoot_42 : decode cX2_growRoot 42 = .ok (.iconst 0, 1) := by decide +kernel
theorem dX2_growRoot_43 : decode cX2_growRoot 43 = .ok (.iconst (-1), 1) := by decide +kernel
theorem dX2_growRoot_44 : decode cX2_growRoot 44 = .ok (.aload_n 0, 1) := by decide +kernel
theorem dX2_growRoot_45 : decode cX2_growRoot 45 = .ok (.getfield 35, 3) := by decide +kernel
theorem dX2_growRoot_48 : decode cX2_growRoot 48 = .ok (.invokevirtual 181, 3) := by decide +kernel
theorem dX2_growRoot_51 : decode cX2_growRoot 51 = .ok (.aload_n 3, 1) := by decide +kernel
theorem dX2_growRoot_52 : decode cX2_growRoot 52 = .ok (.aload_n 1, 1) := by decide +kernel
theorem dX2_growRoot_53 : decode cX2_growRoot 53 = .ok (.getfield 202, 3) := by decide +kernel
theorem dX2_growRoot_56 : decode cX2_growRoot 56 = .ok (.iconst (-1), 1) := by decide +kernel
theorem dX2_growRoot_57 : decode cX2_growRoot 57 = .ok (.aload_n 1, 1) := by decide +kernel
theorem dX2_growRoot_58 : decode cX2_growRoot 58 = .ok (.invokevirtual 181, 3) := by decide +kernel
theorem dX2_growRoot_61 : decode cX2_growRoot 61 = .ok (.aload_n 0, 1) := by decide +kernel
theorem dX2_growRoot_62 : decode cX2_growRoot 62 = .ok (.getfield 11, 3) := by decide +kernel
theorem dX2_growRoot_65 : decode cX2_growRoot 65 = .ok (.iload_n 2, 1) := by decide +kernel
theorem dX2_growRoot_66 : decode cX2_growRoot 66 = .ok (.aload_n 3, 1) := by decide +kernel
theorem dX2_growRoot_67 : decode cX2_growRoot 67 = .ok (.aastore, 1) := by decide +kernel
theorem dX2_growRoot_68 : decode cX2_growRoot 68 = .ok (.aload_n 0, 1) := by decide +kernel
theorem dX2_growRoot_69 : decode cX2_growRoot 69 = .ok (.aload_n 3, 1) := by decide +kernel
theorem dX2_growRoot_70 : decode cX2_growRoot 70 = .ok (.putfield 35, 3) := by decide +kernel
theorem dX2_growRoot_73 : decode cX2_growRoot 73 = .ok (.return_, 1) := by decide +kernel
theorem dX2_unlink_0 : decode cX2_unlink 0 = .ok (.aload_n 0, 1) := by decide +kernel
theorem dX2_unlink_1 : decode cX2_unlink 1 = .ok (.getfield 31, 3) := by decide +kernel
theorem dX2_unlink_4 : decode cX2_unlink 4 = .ok (.astore_n 2, 1) := by decide +kernel
theorem dX2_unlink_5 : decode cX2_unlink 5 = .ok (.aload_n 2, 1) := by decide +kernel
theorem dX2_unlink_6 : decode cX2_unlink 6 = .ok (.ifnull 38, 3) := by decide +kernel
theorem dX2_unlink_9 : decode cX2_unlink 9 = .ok (.aload_n 2, 1) := by decide +kernel
theorem dX2_unlink_10 : decode cX2_unlink 10 = .ok (.getfield 71, 3) := by decide +kernel
theorem dX2_unlink_13 : decode cX2_unlink 13 = .ok (.aload_n 1, 1) := by decide +kernel
theorem dX2_unlink_14 : decode cX2_unlink 14 = .ok (.if_acmp .ne 22, 3) := by decide +kernel
theorem dX2_unlink_17 : decode cX2_unlink 17 = .ok (.aload_n 2, 1) := by decide +kernel
theorem dX2_unlink_18 : decode cX2_unlink 18 = .ok (.aload_n 1, 1) := by decide +kernel
theorem dX2_unlink_19 : decode cX2_unlink 19 = .ok (.getfield 138, 3) := by decide +kernel
theorem dX2_unlink_22 : decode cX2_unlink 22 = .ok (.putfield 138, 3) := by decide +kernel
theorem dX2_unlink_25 : decode cX2_unlink 25 = .ok (.aload_n 2, 1) := by decide +kernel
theorem dX2_unlink_26 : decode cX2_unlink 26 = .ok (.aload_n 1, 1) := by decide +kernel
theorem dX2_unlink_27 : decode cX2_unlink 27 = .ok (.getfield 71, 3) := by decide +kernel
theorem dX2_unlink_30 : decode cX2_unlink 30 = .ok (.putfield 71, 3) := by decide +kernel
theorem dX2_unlink_33 : decode cX2_unlink 33 = .ok (.goto 11, 3) := by decide +kernel
theorem dX2_unlink_36 : decode cX2_unlink 36 = .ok (.aload_n 2, 1) := by decide +kernel
theorem dX2_unlink_37 : decode cX2_unlink 37 = .ok (.getfield 71, 3) := by decide +kernel
theorem dX2_unlink_40 : decode cX2_unlink 40 = .ok (.astore_n 2, 1) := by decide +kernel
theorem dX2_unlink_41 : decode cX2_unlink 41 = .ok (.goto (-36), 3) := by decide +kernel
theorem dX2_unlink_44 : decode cX2_unlink 44 = .ok (.aload_n 1, 1) := by decide +kernel
theorem dX2_unlink_45 : decode cX2_unlink 45 = .ok (.iconst 1, 1) := by decide +kernel
theorem dX2_unlink_46 : decode cX2_unlink 46 = .ok (.putfield 109, 3) := by decide +kernel
theorem dX2_unlink_49 : decode cX2_unlink 49 = .ok (.aload_n 1, 1) := by decide +kernel
theorem dX2_unlink_50 : decode cX2_unlink 50 = .ok (.aload_n 0, 1) := by decide +kernel
theorem dX2_unlink_51 : decode cX2_unlink 51 = .ok (.getfield 120, 3) := by decide +kernel
theorem dX2_unlink_54 : decode cX2_unlink 54 = .ok (.putfield 113, 3) := by decide +kernel
theorem dX2_unlink_57 : decode cX2_unlink 57 = .ok (.aload_n 0, 1) := by decide +kernel
theorem dX2_unlink_58 : decode cX2_unlink 58 = .ok (.dup, 1) := by decide +kernel
theorem dX2_unlink_59 : decode cX2_unlink 59 = .ok (.getfield 120, 3) := by decide +kernel
theorem dX2_unlink_62 : decode cX2_unlink 62 = .ok (.iconst 1, 1) := by decide +kernel
theorem dX2_unlink_63 : decode cX2_unlink 63 = .ok (.iadd, 1) := by decide +kernel
theorem dX2_unlink_64 : decode cX2_unlink 64 = .ok (.putfield 120, 3) := by decide +kernel
theorem dX2_unlink_67 : decode cX2_unlink 67 = .ok (.return_, 1) := by decide +kernel
theorem dX2_allOpenedAfter_0 : decode cX2_allOpenedAfter 0 = .ok (.aload_n 0, 1) := by decide +kernel
theorem dX2_allOpenedAfter_1 : decode cX2_allOpenedAfter 1 = .ok (.getfield 24, 3) := by decide +kernel
theorem dX2_allOpenedAfter_4 : decode cX2_allOpenedAfter 4 = .ok (.astore_n 2, 1) := by decide +kernel
theorem dX2_allOpenedAfter_5 : decode cX2_allOpenedAfter 5 = .ok (.aload_n 2, 1) := by decide +kernel
theorem dX2_allOpenedAfter_6 : decode cX2_allOpenedAfter 6 = .ok (.arraylength, 1) := by decide +kernel
theorem dX2_allOpenedAfter_7 : decode cX2_allOpenedAfter 7 = .ok (.istore_n 3, 1) := by decide +kernel
theorem dX2_allOpenedAfter_8 : decode cX2_allOpenedAfter 8 = .ok (.iconst 0, 1) := by decide +kernel
theorem dX2_allOpenedAfter_9 : decode cX2_allOpenedAfter 9 = .ok (.istore 4, 2) := by decide +kernel
theorem dX2_allOpenedAfter_11 : decode cX2_allOpenedAfter 11 = .ok (.iload 4, 2) := by decide +kernel
theorem dX2_allOpenedAfter_13 : decode cX2_allOpenedAfter 13 = .ok (.iload_n 3, 1) := by decide +kernel
theorem dX2_allOpenedAfter_14 : decode cX2_allOpenedAfter 14 = .ok (.if_icmp .ge 39, 3) := by decide +kernel
theorem dX2_allOpenedAfter_17 : decode cX2_allOpenedAfter 17 = .ok (.aload_n 2, 1) := by decide +kernel
theorem dX2_allOpenedAfter_18 : decode cX2_allOpenedAfter 18 = .ok (.iload 4, 2) := by decide +kernel
theorem dX2_allOpenedAfter_20 : decode cX2_allOpenedAfter 20 = .ok (.aaload, 1) := by decide +kernel
theorem dX2_allOpenedAfter_21 : decode cX2_allOpenedAfter 21 = .ok (.astore 5, 2) := by decide +kernel
theorem dX2_allOpenedAfter_23 : decode cX2_allOpenedAfter 23 = .ok (.aload 5, 2) := by decide +kernel
theorem dX2_allOpenedAfter_25 : decode cX2_allOpenedAfter 25 = .ok (.ifnull 22, 3) := by decide +kernel
theorem dX2_allOpenedAfter_28 : decode cX2_allOpenedAfter 28 = .ok (.aload 5, 2) := by decide +kernel
theorem dX2_allOpenedAfter_30 : decode cX2_allOpenedAfter 30 = .ok (.getfield 162, 3) := by decide +kernel
theorem dX2_allOpenedAfter_33 : decode cX2_allOpenedAfter 33 = .ok (.ifCond .ne 14, 3) := by decide +kernel
theorem dX2_allOpenedAfter_36 : decode cX2_allOpenedAfter 36 = .ok (.aload 5, 2) := by decide +kernel
theorem dX2_allOpenedAfter_38 : decode cX2_allOpenedAfter 38 = .ok (.getfield 205, 3) := by decide +kernel
theorem dX2_allOpenedAfter_41 : decode cX2_allOpenedAfter 41 = .ok (.iload_n 1, 1) := by decide +kernel
theorem dX2_allOpenedAfter_42 : decode cX2_allOpenedAfter 42 = .ok (.if_icmp .gt 5, 3) := by decide +kernel
theorem dX2_allOpenedAfter_45 : decode cX2_allOpenedAfter 45 = .ok (.iconst 0, 1) := by decide +kernel
theorem dX2_allOpenedAfter_46 : decode cX2_allOpenedAfter 46 = .ok (.ireturn, 1) := by decide +kernel
theorem dX2_allOpenedAfter_47 : decode cX2_allOpenedAfter 47 = .ok (.iinc 4 1, 3) := by decide +kernel
theorem dX2_allOpenedAfter_50 : decode cX2_allOpenedAfter 50 = .ok (.goto (-39), 3) := by decide +kernel
theorem dX2_allOpenedAfter_53 : decode cX2_allOpenedAfter 53 = .ok (.iconst 1, 1) := by decide +kernel
theorem dX2_allOpenedAfter_54 : decode cX2_allOpenedAfter 54 = .ok (.ireturn, 1) := by decide +kernel
