/-! decode rows -/
theorem dX3_keys_36 : decode cX3_keys 36 = .ok (.getfield 26, 3) := by decide +kernel
theorem dX3_keys_39 : decode cX3_keys 39 = .ok (.iload_n 2, 1) := by decide +kernel
theorem dX3_keys_40 : decode cX3_keys 40 = .ok (.iaload, 1) := by decide +kernel
theorem dX3_keys_41 : decode cX3_keys 41 = .ok (.goto 4, 3) := by decide +kernel
theorem dX3_keys_44 : decode cX3_keys 44 = .ok (.iconst 0, 1) := by decide +kernel
theorem dX3_keys_45 : decode cX3_keys 45 = .ok (.iadd, 1) := by decide +kernel
theorem dX3_keys_46 : decode cX3_keys 46 = .ok (.istore_n 1, 1) := by decide +kernel
theorem dX3_keys_47 : decode cX3_keys 47 = .ok (.iinc 2 1, 3) := by decide +kernel
theorem dX3_keys_50 : decode cX3_keys 50 = .ok (.goto (-41), 3) := by decide +kernel
theorem dX3_keys_53 : decode cX3_keys 53 = .ok (.iload_n 1, 1) := by decide +kernel
theorem dX3_keys_54 : decode cX3_keys 54 = .ok (.ireturn, 1) := by decide +kernel
theorem dX3_waiting_0 : decode cX3_waiting 0 = .ok (.aload_n 0, 1) := by decide +kernel
theorem dX3_waiting_1 : decode cX3_waiting 1 = .ok (.iconst 0, 1) := by decide +kernel
theorem dX3_waiting_2 : decode cX3_waiting 2 = .ok (.putfield 61, 3) := by decide +kernel
theorem dX3_waiting_5 : decode cX3_waiting 5 = .ok (.aload_n 0, 1) := by decide +kernel
theorem dX3_waiting_6 : decode cX3_waiting 6 = .ok (.getfield 83, 3) := by decide +kernel
theorem dX3_waiting_9 : decode cX3_waiting 9 = .ok (.ireturn, 1) := by decide +kernel
theorem dX3_post_0 : decode cX3_post 0 = .ok (.aload_n 0, 1) := by decide +kernel
theorem dX3_post_1 : decode cX3_post 1 = .ok (.aload_n 0, 1) := by decide +kernel
theorem dX3_post_2 : decode cX3_post 2 = .ok (.getfield 83, 3) := by decide +kernel
theorem dX3_post_5 : decode cX3_post 5 = .ok (.ifCond .ne 7, 3) := by decide +kernel
theorem dX3_post_8 : decode cX3_post 8 = .ok (.iconst 1, 1) := by decide +kernel
theorem dX3_post_9 : decode cX3_post 9 = .ok (.goto 4, 3) := by decide +kernel
theorem dX3_post_12 : decode cX3_post 12 = .ok (.iconst 0, 1) := by decide +kernel
theorem dX3_post_13 : decode cX3_post 13 = .ok (.invokevirtual 97, 3) := by decide +kernel
theorem dX3_post_16 : decode cX3_post 16 = .ok (.ifCond .ne 5, 3) := by decide +kernel
theorem dX3_post_19 : decode cX3_post 19 = .ok (.iconst 0, 1) := by decide +kernel
theorem dX3_post_20 : decode cX3_post 20 = .ok (.ireturn, 1) := by decide +kernel
theorem dX3_post_21 : decode cX3_post 21 = .ok (.aload_n 0, 1) := by decide +kernel
theorem dX3_post_22 : decode cX3_post 22 = .ok (.invokevirtual 111, 3) := by decide +kernel
theorem dX3_post_25 : decode cX3_post 25 = .ok (.aload_n 0, 1) := by decide +kernel
theorem dX3_post_26 : decode cX3_post 26 = .ok (.getfield 83, 3) := by decide +kernel
theorem dX3_post_29 : decode cX3_post 29 = .ok (.ireturn, 1) := by decide +kernel
theorem dX3_postAll_0 : decode cX3_postAll 0 = .ok (.aload_n 0, 1) := by decide +kernel
theorem dX3_postAll_1 : decode cX3_postAll 1 = .ok (.iconst 0, 1) := by decide +kernel
theorem dX3_postAll_2 : decode cX3_postAll 2 = .ok (.putfield 61, 3) := by decide +kernel
theorem dX3_postAll_5 : decode cX3_postAll 5 = .ok (.iconst 0, 1) := by decide +kernel
theorem dX3_postAll_6 : decode cX3_postAll 6 = .ok (.istore_n 1, 1) := by decide +kernel
theorem dX3_postAll_7 : decode cX3_postAll 7 = .ok (.aload_n 0, 1) := by decide +kernel
theorem dX3_postAll_8 : decode cX3_postAll 8 = .ok (.getfield 83, 3) := by decide +kernel
theorem dX3_postAll_11 : decode cX3_postAll 11 = .ok (.ifCond .le 13, 3) := by decide +kernel
theorem dX3_postAll_14 : decode cX3_postAll 14 = .ok (.aload_n 0, 1) := by decide +kernel
theorem dX3_postAll_15 : decode cX3_postAll 15 = .ok (.invokevirtual 111, 3) := by decide +kernel
theorem dX3_postAll_18 : decode cX3_postAll 18 = .ok (.iinc 1 1, 3) := by decide +kernel
theorem dX3_postAll_21 : decode cX3_postAll 21 = .ok (.goto (-14), 3) := by decide +kernel
theorem dX3_postAll_24 : decode cX3_postAll 24 = .ok (.iload_n 1, 1) := by decide +kernel
theorem dX3_postAll_25 : decode cX3_postAll 25 = .ok (.ireturn, 1) := by decide +kernel
theorem dX3_found_0 : decode cX3_found 0 = .ok (.iconst (-1), 1) := by decide +kernel
theorem dX3_found_1 : decode cX3_found 1 = .ok (.istore_n 1, 1) := by decide +kernel
theorem dX3_found_2 : decode cX3_found 2 = .ok (.sipush 200, 3) := by decide +kernel
theorem dX3_found_5 : decode cX3_found 5 = .ok (.istore_n 2, 1) := by decide +kernel
theorem dX3_found_6 : decode cX3_found 6 = .ok (.iconst 0, 1) := by decide +kernel
theorem dX3_found_7 : decode cX3_found 7 = .ok (.istore_n 3, 1) := by decide +kernel
theorem dX3_found_8 : decode cX3_found 8 = .ok (.iload_n 3, 1) := by decide +kernel
theorem dX3_found_9 : decode cX3_found 9 = .ok (.sipush 4000, 3) := by decide +kernel
theorem dX3_found_12 : decode cX3_found 12 = .ok (.if_icmp .ge 109, 3) := by decide +kernel
theorem dX3_found_15 : decode cX3_found 15 = .ok (.iload_n 3, 1) := by decide +kernel
theorem dX3_found_16 : decode cX3_found 16 = .ok (.iconst 5, 1) := by decide +kernel
theorem dX3_found_17 : decode cX3_found 17 = .ok (.idiv, 1) := by decide +kernel
theorem dX3_found_18 : decode cX3_found 18 = .ok (.istore 4, 2) := by decide +kernel
theorem dX3_found_20 : decode cX3_found 20 = .ok (.aload_n 0, 1) := by decide +kernel
theorem dX3_found_21 : decode cX3_found 21 = .ok (.getfield 7, 3) := by decide +kernel
theorem dX3_found_24 : decode cX3_found 24 = .ok (.iload 4, 2) := by decide +kernel
theorem dX3_found_26 : decode cX3_found 26 = .ok (.baload, 1) := by decide +kernel
theorem dX3_found_27 : decode cX3_found 27 = .ok (.ifCond .eq 37, 3) := by decide +kernel
theorem dX3_found_30 : decode cX3_found 30 = .ok (.aload_n 0, 1) := by decide +kernel
theorem dX3_found_31 : decode cX3_found 31 = .ok (.getfield 13, 3) := by decide +kernel
theorem dX3_found_34 : decode cX3_found 34 = .ok (.iload 4, 2) := by decide +kernel
theorem dX3_found_36 : decode cX3_found 36 = .ok (.iaload, 1) := by decide +kernel
theorem dX3_found_37 : decode cX3_found 37 = .ok (.iconst 1, 1) := by decide +kernel
theorem dX3_found_38 : decode cX3_found 38 = .ok (.if_icmp .ne 26, 3) := by decide +kernel
theorem dX3_found_41 : decode cX3_found 41 = .ok (.iload_n 3, 1) := by decide +kernel
theorem dX3_found_42 : decode cX3_found 42 = .ok (.iconst 5, 1) := by decide +kernel
theorem dX3_found_43 : decode cX3_found 43 = .ok (.irem, 1) := by decide +kernel
theorem dX3_found_44 : decode cX3_found 44 = .ok (.ifCond .le 20, 3) := by decide +kernel
theorem dX3_found_47 : decode cX3_found 47 = .ok (.iload_n 3, 1) := by decide +kernel
theorem dX3_found_48 : decode cX3_found 48 = .ok (.iconst 5, 1) := by decide +kernel
theorem dX3_found_49 : decode cX3_found 49 = .ok (.irem, 1) := by decide +kernel
theorem dX3_found_50 : decode cX3_found 50 = .ok (.aload_n 0, 1) := by decide +kernel
theorem dX3_found_51 : decode cX3_found 51 = .ok (.getfield 26, 3) := by decide +kernel
theorem dX3_found_54 : decode cX3_found 54 = .ok (.iload 4, 2) := by decide +kernel
theorem dX3_found_56 : decode cX3_found 56 = .ok (.iaload, 1) := by decide +kernel
theorem dX3_found_57 : decode cX3_found 57 = .ok (.if_icmp .ge 7, 3) := by decide +kernel
theorem dX3_found_60 : decode cX3_found 60 = .ok (.iconst 1, 1) := by decide +kernel
theorem dX3_found_61 : decode cX3_found 61 = .ok (.goto 4, 3) := by decide +kernel
theorem dX3_found_64 : decode cX3_found 64 = .ok (.iconst 0, 1) := by decide +kernel
theorem dX3_found_65 : decode cX3_found 65 = .ok (.istore 5, 2) := by decide +kernel
theorem dX3_found_67 : decode cX3_found 67 = .ok (.iload 5, 2) := by decide +kernel
theorem dX3_found_69 : decode cX3_found 69 = .ok (.ifCond .eq 46, 3) := by decide +kernel
theorem dX3_found_72 : decode cX3_found 72 = .ok (.aload_n 0, 1) := by decide +kernel
theorem dX3_found_73 : decode cX3_found 73 = .ok (.getfield 26, 3) := by decide +kernel
theorem dX3_found_76 : decode cX3_found 76 = .ok (.aload_n 0, 1) := by decide +kernel
theorem dX3_found_77 : decode cX3_found 77 = .ok (.getfield 32, 3) := by decide +kernel
theorem dX3_found_80 : decode cX3_found 80 = .ok (.iload_n 3, 1) := by decide +kernel
theorem dX3_found_81 : decode cX3_found 81 = .ok (.iaload, 1) := by decide +kernel
theorem dX3_found_82 : decode cX3_found 82 = .ok (.iaload, 1) := by decide +kernel
theorem dX3_found_83 : decode cX3_found 83 = .ok (.ifCond .ne 32, 3) := by decide +kernel
theorem dX3_found_86 : decode cX3_found 86 = .ok (.aload_n 0, 1) := by decide +kernel
theorem dX3_found_87 : decode cX3_found 87 = .ok (.getfield 17, 3) := by decide +kernel
theorem dX3_found_90 : decode cX3_found 90 = .ok (.aload_n 0, 1) := by decide +kernel
theorem dX3_found_91 : decode cX3_found 91 = .ok (.getfield 32, 3) := by decide +kernel
theorem dX3_found_94 : decode cX3_found 94 = .ok (.iload_n 3, 1) := by decide +kernel
theorem dX3_found_95 : decode cX3_found 95 = .ok (.iaload, 1) := by decide +kernel
theorem dX3_found_96 : decode cX3_found 96 = .ok (.iaload, 1) := by decide +kernel
theorem dX3_found_97 : decode cX3_found 97 = .ok (.iload_n 2, 1) := by decide +kernel
theorem dX3_found_98 : decode cX3_found 98 = .ok (.if_icmp .ge 17, 3) := by decide +kernel
theorem dX3_found_101 : decode cX3_found 101 = .ok (.iload_n 3, 1) := by decide +kernel
theorem dX3_found_102 : decode cX3_found 102 = .ok (.istore_n 1, 1) := by decide +kernel
theorem dX3_found_103 : decode cX3_found 103 = .ok (.aload_n 0, 1) := by decide +kernel
theorem dX3_found_104 : decode cX3_found 104 = .ok (.getfield 17, 3) := by decide +kernel
theorem dX3_found_107 : decode cX3_found 107 = .ok (.aload_n 0, 1) := by decide +kernel
theorem dX3_found_108 : decode cX3_found 108 = .ok (.getfield 32, 3) := by decide +kernel
theorem dX3_found_111 : decode cX3_found 111 = .ok (.iload_n 3, 1) := by decide +kernel
theorem dX3_found_112 : decode cX3_found 112 = .ok (.iaload, 1) := by decide +kernel
theorem dX3_found_113 : decode cX3_found 113 = .ok (.iaload, 1) := by decide +kernel
theorem dX3_found_114 : decode cX3_found 114 = .ok (.istore_n 2, 1) := by decide +kernel
theorem dX3_found_115 : decode cX3_found 115 = .ok (.iinc 3 1, 3) := by decide +kernel
theorem dX3_found_118 : decode cX3_found 118 = .ok (.goto (-110), 3) := by decide +kernel
theorem dX3_found_121 : decode cX3_found 121 = .ok (.iload_n 1, 1) := by decide +kernel
theorem dX3_found_122 : decode cX3_found 122 = .ok (.ireturn, 1) := by decide +kernel
theorem dX3_takeOut_0 : decode cX3_takeOut 0 = .ok (.aload_n 0, 1) := by decide +kernel
theorem dX3_takeOut_1 : decode cX3_takeOut 1 = .ok (.iconst 0, 1) := by decide +kernel
theorem dX3_takeOut_2 : decode cX3_takeOut 2 = .ok (.putfield 61, 3) := by decide +kernel
theorem dX3_takeOut_5 : decode cX3_takeOut 5 = .ok (.aload_n 0, 1) := by decide +kernel
theorem dX3_takeOut_6 : decode cX3_takeOut 6 = .ok (.invokevirtual 114, 3) := by decide +kernel
theorem dX3_takeOut_9 : decode cX3_takeOut 9 = .ok (.istore_n 1, 1) := by decide +kernel
theorem dX3_takeOut_10 : decode cX3_takeOut 10 = .ok (.iload_n 1, 1) := by decide +kernel
theorem dX3_takeOut_11 : decode cX3_takeOut 11 = .ok (.iconst (-1), 1) := by decide +kernel
theorem dX3_takeOut_12 : decode cX3_takeOut 12 = .ok (.if_icmp .ne 5, 3) := by decide +kernel
theorem dX3_takeOut_15 : decode cX3_takeOut 15 = .ok (.iconst (-1), 1) := by decide +kernel
theorem dX3_takeOut_16 : decode cX3_takeOut 16 = .ok (.ireturn, 1) := by decide +kernel
theorem dX3_takeOut_17 : decode cX3_takeOut 17 = .ok (.aload_n 0, 1) := by decide +kernel
theorem dX3_takeOut_18 : decode cX3_takeOut 18 = .ok (.getfield 32, 3) := by decide +kernel
theorem dX3_takeOut_21 : decode cX3_takeOut 21 = .ok (.iload_n 1, 1) := by decide +kernel
theorem dX3_takeOut_22 : decode cX3_takeOut 22 = .ok (.iaload, 1) := by decide +kernel
theorem dX3_takeOut_23 : decode cX3_takeOut 23 = .ok (.istore_n 2, 1) := by decide +kernel
theorem dX3_takeOut_24 : decode cX3_takeOut 24 = .ok (.aload_n 0, 1) := by decide +kernel
theorem dX3_takeOut_25 : decode cX3_takeOut 25 = .ok (.iload_n 1, 1) := by decide +kernel
theorem dX3_takeOut_26 : decode cX3_takeOut 26 = .ok (.iconst 5, 1) := by decide +kernel
theorem dX3_takeOut_27 : decode cX3_takeOut 27 = .ok (.idiv, 1) := by decide +kernel
theorem dX3_takeOut_28 : decode cX3_takeOut 28 = .ok (.iload_n 1, 1) := by decide +kernel
theorem dX3_takeOut_29 : decode cX3_takeOut 29 = .ok (.iconst 5, 1) := by decide +kernel
theorem dX3_takeOut_30 : decode cX3_takeOut 30 = .ok (.irem, 1) := by decide +kernel
theorem dX3_takeOut_31 : decode cX3_takeOut 31 = .ok (.invokevirtual 107, 3) := by decide +kernel
theorem dX3_takeOut_34 : decode cX3_takeOut 34 = .ok (.iconst 0, 1) := by decide +kernel
theorem dX3_takeOut_35 : decode cX3_takeOut 35 = .ok (.istore_n 3, 1) := by decide +kernel
theorem dX3_takeOut_36 : decode cX3_takeOut 36 = .ok (.iload_n 3, 1) := by decide +kernel
theorem dX3_takeOut_37 : decode cX3_takeOut 37 = .ok (.sipush 800, 3) := by decide +kernel
theorem dX3_takeOut_40 : decode cX3_takeOut 40 = .ok (.if_icmp .ge 71, 3) := by decide +kernel
theorem dX3_takeOut_43 : decode cX3_takeOut 43 = .ok (.aload_n 0, 1) := by decide +kernel
theorem dX3_takeOut_44 : decode cX3_takeOut 44 = .ok (.getfield 7, 3) := by decide +kernel
theorem dX3_takeOut_47 : decode cX3_takeOut 47 = .ok (.iload_n 3, 1) := by decide +kernel
theorem dX3_takeOut_48 : decode cX3_takeOut 48 = .ok (.baload, 1) := by decide +kernel
theorem dX3_takeOut_49 : decode cX3_takeOut 49 = .ok (.ifCond .eq 56, 3) := by decide +kernel
theorem dX3_takeOut_52 : decode cX3_takeOut 52 = .ok (.aload_n 0, 1) := by decide +kernel
theorem dX3_takeOut_53 : decode cX3_takeOut 53 = .ok (.getfield 13, 3) := by decide +kernel
theorem dX3_takeOut_56 : decode cX3_takeOut 56 = .ok (.iload_n 3, 1) := by decide +kernel
theorem dX3_takeOut_57 : decode cX3_takeOut 57 = .ok (.iaload, 1) := by decide +kernel
theorem dX3_takeOut_58 : decode cX3_takeOut 58 = .ok (.ifCond .ne 47, 3) := by decide +kernel
theorem dX3_takeOut_61 : decode cX3_takeOut 61 = .ok (.aload_n 0, 1) := by decide +kernel
theorem dX3_takeOut_62 : decode cX3_takeOut 62 = .ok (.getfield 35, 3) := by decide +kernel
theorem dX3_takeOut_65 : decode cX3_takeOut 65 = .ok (.iload_n 3, 1) := by decide +kernel
theorem dX3_takeOut_66 : decode cX3_takeOut 66 = .ok (.iaload, 1) := by decide +kernel
theorem dX3_takeOut_67 : decode cX3_takeOut 67 = .ok (.iconst (-1), 1) := by decide +kernel
theorem dX3_takeOut_68 : decode cX3_takeOut 68 = .ok (.if_icmp .ne 37, 3) := by decide +kernel
theorem dX3_takeOut_71 : decode cX3_takeOut 71 = .ok (.aload_n 0, 1) := by decide +kernel
theorem dX3_takeOut_72 : decode cX3_takeOut 72 = .ok (.getfield 23, 3) := by decide +kernel
theorem dX3_takeOut_75 : decode cX3_takeOut 75 = .ok (.iload_n 3, 1) := by decide +kernel
theorem dX3_takeOut_76 : decode cX3_takeOut 76 = .ok (.iaload, 1) := by decide +kernel
theorem dX3_takeOut_77 : decode cX3_takeOut 77 = .ok (.iload_n 2, 1) := by decide +kernel
theorem dX3_takeOut_78 : decode cX3_takeOut 78 = .ok (.if_icmp .ne 27, 3) := by decide +kernel
theorem dX3_takeOut_81 : decode cX3_takeOut 81 = .ok (.aload_n 0, 1) := by decide +kernel
theorem dX3_takeOut_82 : decode cX3_takeOut 82 = .ok (.getfield 20, 3) := by decide +kernel
theorem dX3_takeOut_85 : decode cX3_takeOut 85 = .ok (.iload_n 3, 1) := by decide +kernel
theorem dX3_takeOut_86 : decode cX3_takeOut 86 = .ok (.aload_n 0, 1) := by decide +kernel
theorem dX3_takeOut_87 : decode cX3_takeOut 87 = .ok (.getfield 20, 3) := by decide +kernel
theorem dX3_takeOut_90 : decode cX3_takeOut 90 = .ok (.iload_n 2, 1) := by decide +kernel
theorem dX3_takeOut_91 : decode cX3_takeOut 91 = .ok (.iaload, 1) := by decide +kernel
theorem dX3_takeOut_92 : decode cX3_takeOut 92 = .ok (.iastore, 1) := by decide +kernel
theorem dX3_takeOut_93 : decode cX3_takeOut 93 = .ok (.aload_n 0, 1) := by decide +kernel
theorem dX3_takeOut_94 : decode cX3_takeOut 94 = .ok (.getfield 23, 3) := by decide +kernel
theorem dX3_takeOut_97 : decode cX3_takeOut 97 = .ok (.iload_n 3, 1) := by decide +kernel
theorem dX3_takeOut_98 : decode cX3_takeOut 98 = .ok (.aload_n 0, 1) := by decide +kernel
theorem dX3_takeOut_99 : decode cX3_takeOut 99 = .ok (.getfield 23, 3) := by decide +kernel
theorem dX3_takeOut_102 : decode cX3_takeOut 102 = .ok (.iload_n 2, 1) := by decide +kernel
theorem dX3_takeOut_103 : decode cX3_takeOut 103 = .ok (.iaload, 1) := by decide +kernel
theorem dX3_takeOut_104 : decode cX3_takeOut 104 = .ok (.iastore, 1) := by decide +kernel
theorem dX3_takeOut_105 : decode cX3_takeOut 105 = .ok (.iinc 3 1, 3) := by decide +kernel
theorem dX3_takeOut_108 : decode cX3_takeOut 108 = .ok (.goto (-72), 3) := by decide +kernel
theorem dX3_takeOut_111 : decode cX3_takeOut 111 = .ok (.aload_n 0, 1) := by decide +kernel
theorem dX3_takeOut_112 : decode cX3_takeOut 112 = .ok (.getfield 35, 3) := by decide +kernel
theorem dX3_takeOut_115 : decode cX3_takeOut 115 = .ok (.iload_n 2, 1) := by decide +kernel
theorem dX3_takeOut_116 : decode cX3_takeOut 116 = .ok (.aload_n 0, 1) := by decide +kernel
theorem dX3_takeOut_117 : decode cX3_takeOut 117 = .ok (.getfield 118, 3) := by decide +kernel
theorem dX3_takeOut_120 : decode cX3_takeOut 120 = .ok (.iastore, 1) := by decide +kernel
theorem dX3_takeOut_121 : decode cX3_takeOut 121 = .ok (.aload_n 0, 1) := by decide +kernel
theorem dX3_takeOut_122 : decode cX3_takeOut 122 = .ok (.dup, 1) := by decide +kernel
theorem dX3_takeOut_123 : decode cX3_takeOut 123 = .ok (.getfield 118, 3) := by decide +kernel
theorem dX3_takeOut_126 : decode cX3_takeOut 126 = .ok (.iconst 1, 1) := by decide +kernel
theorem dX3_takeOut_127 : decode cX3_takeOut 127 = .ok (.iadd, 1) := by decide +kernel
theorem dX3_takeOut_128 : decode cX3_takeOut 128 = .ok (.putfield 118, 3) := by decide +kernel
theorem dX3_takeOut_131 : decode cX3_takeOut 131 = .ok (.iload_n 2, 1) := by decide +kernel
theorem dX3_takeOut_132 : decode cX3_takeOut 132 = .ok (.ireturn, 1) := by decide +kernel
theorem dX3_mayRecycle_0 : decode cX3_mayRecycle 0 = .ok (.iconst 0, 1) := by decide +kernel
theorem dX3_mayRecycle_1 : decode cX3_mayRecycle 1 = .ok (.istore_n 2, 1) := by decide +kernel
theorem dX3_mayRecycle_2 : decode cX3_mayRecycle 2 = .ok (.iload_n 2, 1) := by decide +kernel
theorem dX3_mayRecycle_3 : decode cX3_mayRecycle 3 = .ok (.aload_n 0, 1) := by decide +kernel
theorem dX3_mayRecycle_4 : decode cX3_mayRecycle 4 = .ok (.getfield 121, 3) := by decide +kernel
theorem dX3_mayRecycle_7 : decode cX3_mayRecycle 7 = .ok (.if_icmp .ge 35, 3) := by decide +kernel
theorem dX3_mayRecycle_10 : decode cX3_mayRecycle 10 = .ok (.aload_n 0, 1) := by decide +kernel
theorem dX3_mayRecycle_11 : decode cX3_mayRecycle 11 = .ok (.getfield 41, 3) := by decide +kernel
theorem dX3_mayRecycle_14 : decode cX3_mayRecycle 14 = .ok (.iload_n 2, 1) := by decide +kernel
theorem dX3_mayRecycle_15 : decode cX3_mayRecycle 15 = .ok (.baload, 1) := by decide +kernel
theorem dX3_mayRecycle_16 : decode cX3_mayRecycle 16 = .ok (.ifCond .eq 20, 3) := by decide +kernel
theorem dX3_mayRecycle_19 : decode cX3_mayRecycle 19 = .ok (.aload_n 0, 1) := by decide +kernel
theorem dX3_mayRecycle_20 : decode cX3_mayRecycle 20 = .ok (.getfield 50, 3) := by decide +kernel
theorem dX3_mayRecycle_23 : decode cX3_mayRecycle 23 = .ok (.iload_n 2, 1) := by decide +kernel
theorem dX3_mayRecycle_24 : decode cX3_mayRecycle 24 = .ok (.iaload, 1) := by decide +kernel
theorem dX3_mayRecycle_25 : decode cX3_mayRecycle 25 = .ok (.aload_n 0, 1) := by decide +kernel
theorem dX3_mayRecycle_26 : decode cX3_mayRecycle 26 = .ok (.getfield 35, 3) := by decide +kernel
theorem dX3_mayRecycle_29 : decode cX3_mayRecycle 29 = .ok (.iload_n 1, 1) := by decide +kernel
theorem dX3_mayRecycle_30 : decode cX3_mayRecycle 30 = .ok (.iaload, 1) := by decide +kernel
theorem dX3_mayRecycle_31 : decode cX3_mayRecycle 31 = .ok (.if_icmp .gt 5, 3) := by decide +kernel
theorem dX3_mayRecycle_34 : decode cX3_mayRecycle 34 = .ok (.iconst 0, 1) := by decide +kernel
theorem dX3_mayRecycle_35 : decode cX3_mayRecycle 35 = .ok (.ireturn, 1) := by decide +kernel
theorem dX3_mayRecycle_36 : decode cX3_mayRecycle 36 = .ok (.iinc 2 1, 3) := by decide +kernel
theorem dX3_mayRecycle_39 : decode cX3_mayRecycle 39 = .ok (.goto (-37), 3) := by decide +kernel
theorem dX3_mayRecycle_42 : decode cX3_mayRecycle 42 = .ok (.aload_n 0, 1) := by decide +kernel
theorem dX3_mayRecycle_43 : decode cX3_mayRecycle 43 = .ok (.getfield 7, 3) := by decide +kernel
theorem dX3_mayRecycle_46 : decode cX3_mayRecycle 46 = .ok (.iload_n 1, 1) := by decide +kernel
theorem dX3_mayRecycle_47 : decode cX3_mayRecycle 47 = .ok (.baload, 1) := by decide +kernel
theorem dX3_mayRecycle_48 : decode cX3_mayRecycle 48 = .ok (.ifCond .eq 17, 3) := by decide +kernel
theorem dX3_mayRecycle_51 : decode cX3_mayRecycle 51 = .ok (.aload_n 0, 1) := by decide +kernel
theorem dX3_mayRecycle_52 : decode cX3_mayRecycle 52 = .ok (.getfield 35, 3) := by decide +kernel
theorem dX3_mayRecycle_55 : decode cX3_mayRecycle 55 = .ok (.iload_n 1, 1) := by decide +kernel
theorem dX3_mayRecycle_56 : decode cX3_mayRecycle 56 = .ok (.iaload, 1) := by decide +kernel
theorem dX3_mayRecycle_57 : decode cX3_mayRecycle 57 = .ok (.iconst (-1), 1) := by decide +kernel
theorem dX3_mayRecycle_58 : decode cX3_mayRecycle 58 = .ok (.if_icmp .eq 7, 3) := by decide +kernel
theorem dX3_mayRecycle_61 : decode cX3_mayRecycle 61 = .ok (.iconst 1, 1) := by decide +kernel
theorem dX3_mayRecycle_62 : decode cX3_mayRecycle 62 = .ok (.goto 4, 3) := by decide +kernel
theorem dX3_mayRecycle_65 : decode cX3_mayRecycle 65 = .ok (.iconst 0, 1) := by decide +kernel
theorem dX3_mayRecycle_66 : decode cX3_mayRecycle 66 = .ok (.ireturn, 1) := by decide +kernel
theorem dX3_recycle_0 : decode cX3_recycle 0 = .ok (.aload_n 0, 1) := by decide +kernel
theorem dX3_recycle_1 : decode cX3_recycle 1 = .ok (.iconst 0, 1) := by decide +kernel
theorem dX3_recycle_2 : decode cX3_recycle 2 = .ok (.putfield 61, 3) := by decide +kernel
theorem dX3_recycle_5 : decode cX3_recycle 5 = .ok (.iconst 0, 1) := by decide +kernel
theorem dX3_recycle_6 : decode cX3_recycle 6 = .ok (.istore_n 1, 1) := by decide +kernel
theorem dX3_recycle_7 : decode cX3_recycle 7 = .ok (.iconst 0, 1) := by decide +kernel
theorem dX3_recycle_8 : decode cX3_recycle 8 = .ok (.istore_n 2, 1) := by decide +kernel
theorem dX3_recycle_9 : decode cX3_recycle 9 = .ok (.iload_n 2, 1) := by decide +kernel
theorem dX3_recycle_10 : decode cX3_recycle 10 = .ok (.sipush 800, 3) := by decide +kernel
theorem dX3_recycle_13 : decode cX3_recycle 13 = .ok (.if_icmp .ge 27, 3) := by decide +kernel
theorem dX3_recycle_16 : decode cX3_recycle 16 = .ok (.aload_n 0, 1) := by decide +kernel
theorem dX3_recycle_17 : decode cX3_recycle 17 = .ok (.iload_n 2, 1) := by decide +kernel
theorem dX3_recycle_18 : decode cX3_recycle 18 = .ok (.invokevirtual 124, 3) := by decide +kernel
theorem dX3_recycle_21 : decode cX3_recycle 21 = .ok (.ifCond .eq 13, 3) := by decide +kernel
theorem dX3_recycle_24 : decode cX3_recycle 24 = .ok (.aload_n 0, 1) := by decide +kernel
theorem dX3_recycle_25 : decode cX3_recycle 25 = .ok (.getfield 7, 3) := by decide +kernel
theorem dX3_recycle_28 : decode cX3_recycle 28 = .ok (.iload_n 2, 1) := by decide +kernel
theorem dX3_recycle_29 : decode cX3_recycle 29 = .ok (.iconst 0, 1) := by decide +kernel
theorem dX3_recycle_30 : decode cX3_recycle 30 = .ok (.bastore, 1) := by decide +kernel
theorem dX3_recycle_31 : decode cX3_recycle 31 = .ok (.iinc 1 1, 3) := by decide +kernel
theorem dX3_recycle_34 : decode cX3_recycle 34 = .ok (.iinc 2 1, 3) := by decide +kernel
theorem dX3_recycle_37 : decode cX3_recycle 37 = .ok (.goto (-28), 3) := by decide +kernel
theorem dX3_recycle_40 : decode cX3_recycle 40 = .ok (.iload_n 1, 1) := by decide +kernel
theorem dX3_recycle_41 : decode cX3_recycle 41 = .ok (.ireturn, 1) := by decide +kernel
theorem dX3_dead_0 : decode cX3_dead 0 = .ok (.aload_n 0, 1) := by decide +kernel
theorem dX3_dead_1 : decode cX3_dead 1 = .ok (.iconst 0, 1) := by decide +kernel
theorem dX3_dead_2 : decode cX3_dead 2 = .ok (.putfield 61, 3) := by decide +kernel
theorem dX3_dead_5 : decode cX3_dead 5 = .ok (.iconst 0, 1) := by decide +kernel
theorem dX3_dead_6 : decode cX3_dead 6 = .ok (.istore_n 1, 1) := by decide +kernel
theorem dX3_dead_7 : decode cX3_dead 7 = .ok (.iconst 0, 1) := by decide +kernel
theorem dX3_dead_8 : decode cX3_dead 8 = .ok (.istore_n 2, 1) := by decide +kernel
theorem dX3_dead_9 : decode cX3_dead 9 = .ok (.iload_n 2, 1) := by decide +kernel
theorem dX3_dead_10 : decode cX3_dead 10 = .ok (.sipush 800, 3) := by decide +kernel
theorem dX3_dead_13 : decode cX3_dead 13 = .ok (.if_icmp .ge 36, 3) := by decide +kernel
theorem dX3_dead_16 : decode cX3_dead 16 = .ok (.iload_n 1, 1) := by decide +kernel
theorem dX3_dead_17 : decode cX3_dead 17 = .ok (.aload_n 0, 1) := by decide +kernel
theorem dX3_dead_18 : decode cX3_dead 18 = .ok (.getfield 7, 3) := by decide +kernel
theorem dX3_dead_21 : decode cX3_dead 21 = .ok (.iload_n 2, 1) := by decide +kernel
theorem dX3_dead_22 : decode cX3_dead 22 = .ok (.baload, 1) := by decide +kernel
theorem dX3_dead_23 : decode cX3_dead 23 = .ok (.ifCond .eq 17, 3) := by decide +kernel
theorem dX3_dead_26 : decode cX3_dead 26 = .ok (.aload_n 0, 1) := by decide +kernel
theorem dX3_dead_27 : decode cX3_dead 27 = .ok (.getfield 35, 3) := by decide +kernel
theorem dX3_dead_30 : decode cX3_dead 30 = .ok (.iload_n 2, 1) := by decide +kernel
theorem dX3_dead_31 : decode cX3_dead 31 = .ok (.iaload, 1) := by decide +kernel
theorem dX3_dead_32 : decode cX3_dead 32 = .ok (.iconst (-1), 1) := by decide +kernel
theorem dX3_dead_33 : decode cX3_dead 33 = .ok (.if_icmp .eq 7, 3) := by decide +kernel
theorem dX3_dead_36 : decode cX3_dead 36 = .ok (.iconst 1, 1) := by decide +kernel
theorem dX3_dead_37 : decode cX3_dead 37 = .ok (.goto 4, 3) := by decide +kernel
theorem dX3_dead_40 : decode cX3_dead 40 = .ok (.iconst 0, 1) := by decide +kernel
theorem dX3_dead_41 : decode cX3_dead 41 = .ok (.iadd, 1) := by decide +kernel
theorem dX3_dead_42 : decode cX3_dead 42 = .ok (.istore_n 1, 1) := by decide +kernel
theorem dX3_dead_43 : decode cX3_dead 43 = .ok (.iinc 2 1, 3) := by decide +kernel
theorem dX3_dead_46 : decode cX3_dead 46 = .ok (.goto (-37), 3) := by decide +kernel
theorem dX3_dead_49 : decode cX3_dead 49 = .ok (.iload_n 1, 1) := by decide +kernel
theorem dX3_dead_50 : decode cX3_dead 50 = .ok (.ireturn, 1) := by decide +kernel
theorem dX3_epoch_0 : decode cX3_epoch 0 = .ok (.aload_n 0, 1) := by decide +kernel
theorem dX3_epoch_1 : decode cX3_epoch 1 = .ok (.iconst 0, 1) := by decide +kernel
theorem dX3_epoch_2 : decode cX3_epoch 2 = .ok (.putfield 61, 3) := by decide +kernel
theorem dX3_epoch_5 : decode cX3_epoch 5 = .ok (.aload_n 0, 1) := by decide +kernel
theorem dX3_epoch_6 : decode cX3_epoch 6 = .ok (.getfield 118, 3) := by decide +kernel
theorem dX3_epoch_9 : decode cX3_epoch 9 = .ok (.ireturn, 1) := by decide +kernel
theorem dX3_pages_0 : decode cX3_pages 0 = .ok (.aload_n 0, 1) := by decide +kernel
theorem dX3_pages_1 : decode cX3_pages 1 = .ok (.iconst 0, 1) := by decide +kernel
theorem dX3_pages_2 : decode cX3_pages 2 = .ok (.putfield 61, 3) := by decide +kernel
theorem dX3_pages_5 : decode cX3_pages 5 = .ok (.iconst 0, 1) := by decide +kernel
theorem dX3_pages_6 : decode cX3_pages 6 = .ok (.istore_n 1, 1) := by decide +kernel
theorem dX3_pages_7 : decode cX3_pages 7 = .ok (.iconst 0, 1) := by decide +kernel
theorem dX3_pages_8 : decode cX3_pages 8 = .ok (.istore_n 2, 1) := by decide +kernel
theorem dX3_pages_9 : decode cX3_pages 9 = .ok (.iload_n 2, 1) := by decide +kernel
theorem dX3_pages_10 : decode cX3_pages 10 = .ok (.sipush 800, 3) := by decide +kernel
theorem dX3_pages_13 : decode cX3_pages 13 = .ok (.if_icmp .ge 26, 3) := by decide +kernel
theorem dX3_pages_16 : decode cX3_pages 16 = .ok (.iload_n 1, 1) := by decide +kernel
theorem dX3_pages_17 : decode cX3_pages 17 = .ok (.aload_n 0, 1) := by decide +kernel
theorem dX3_pages_18 : decode cX3_pages 18 = .ok (.getfield 7, 3) := by decide +kernel
theorem dX3_pages_21 : decode cX3_pages 21 = .ok (.iload_n 2, 1) := by decide +kernel
theorem dX3_pages_22 : decode cX3_pages 22 = .ok (.baload, 1) := by decide +kernel
theorem dX3_pages_23 : decode cX3_pages 23 = .ok (.ifCond .eq 7, 3) := by decide +kernel
theorem dX3_pages_26 : decode cX3_pages 26 = .ok (.iconst 1, 1) := by decide +kernel
theorem dX3_pages_27 : decode cX3_pages 27 = .ok (.goto 4, 3) := by decide +kernel
theorem dX3_pages_30 : decode cX3_pages 30 = .ok (.iconst 0, 1) := by decide +kernel
theorem dX3_pages_31 : decode cX3_pages 31 = .ok (.iadd, 1) := by decide +kernel
theorem dX3_pages_32 : decode cX3_pages 32 = .ok (.istore_n 1, 1) := by decide +kernel
theorem dX3_pages_33 : decode cX3_pages 33 = .ok (.iinc 2 1, 3) := by decide +kernel
theorem dX3_pages_36 : decode cX3_pages 36 = .ok (.goto (-27), 3) := by decide +kernel
theorem dX3_pages_39 : decode cX3_pages 39 = .ok (.iload_n 1, 1) := by decide +kernel
theorem dX3_pages_40 : decode cX3_pages 40 = .ok (.ireturn, 1) := by decide +kernel
theorem dX3_root_0 : decode cX3_root 0 = .ok (.aload_n 0, 1) := by decide +kernel
theorem dX3_root_1 : decode cX3_root 1 = .ok (.iconst 0, 1) := by decide +kernel
theorem dX3_root_2 : decode cX3_root 2 = .ok (.putfield 61, 3) := by decide +kernel
theorem dX3_root_5 : decode cX3_root 5 = .ok (.aload_n 0, 1) := by decide +kernel
theorem dX3_root_6 : decode cX3_root 6 = .ok (.getfield 57, 3) := by decide +kernel
theorem dX3_root_9 : decode cX3_root 9 = .ok (.ireturn, 1) := by decide +kernel
theorem dX3_isPage_0 : decode cX3_isPage 0 = .ok (.iload_n 1, 1) := by decide +kernel
theorem dX3_isPage_1 : decode cX3_isPage 1 = .ok (.iconst 0, 1) := by decide +kernel
theorem dX3_isPage_2 : decode cX3_isPage 2 = .ok (.sipush 799, 3) := by decide +kernel
theorem dX3_isPage_5 : decode cX3_isPage 5 = .ok (.invokestatic 64, 3) := by decide +kernel
theorem dX3_isPage_8 : decode cX3_isPage 8 = .ok (.ifCond .eq 16, 3) := by decide +kernel
theorem dX3_isPage_11 : decode cX3_isPage 11 = .ok (.aload_n 0, 1) := by decide +kernel
theorem dX3_isPage_12 : decode cX3_isPage 12 = .ok (.getfield 7, 3) := by decide +kernel
theorem dX3_isPage_15 : decode cX3_isPage 15 = .ok (.iload_n 1, 1) := by decide +kernel
theorem dX3_isPage_16 : decode cX3_isPage 16 = .ok (.baload, 1) := by decide +kernel
theorem dX3_isPage_17 : decode cX3_isPage 17 = .ok (.ifCond .eq 7, 3) := by decide +kernel
theorem dX3_isPage_20 : decode cX3_isPage 20 = .ok (.iconst 1, 1) := by decide +kernel
theorem dX3_isPage_21 : decode cX3_isPage 21 = .ok (.goto 4, 3) := by decide +kernel
theorem dX3_isPage_24 : decode cX3_isPage 24 = .ok (.iconst 0, 1) := by decide +kernel
theorem dX3_isPage_25 : decode cX3_isPage 25 = .ok (.ireturn, 1) := by decide +kernel
theorem dX3_level_0 : decode cX3_level 0 = .ok (.aload_n 0, 1) := by decide +kernel
theorem dX3_level_1 : decode cX3_level 1 = .ok (.aload_n 0, 1) := by decide +kernel
theorem dX3_level_2 : decode cX3_level 2 = .ok (.iload_n 1, 1) := by decide +kernel
theorem dX3_level_3 : decode cX3_level 3 = .ok (.invokevirtual 127, 3) := by decide +kernel
theorem dX3_level_6 : decode cX3_level 6 = .ok (.ifCond .eq 7, 3) := by decide +kernel
theorem dX3_level_9 : decode cX3_level 9 = .ok (.iconst 0, 1) := by decide +kernel
theorem dX3_level_10 : decode cX3_level 10 = .ok (.goto 4, 3) := by decide +kernel
theorem dX3_level_13 : decode cX3_level 13 = .ok (.iconst 1, 1) := by decide +kernel
theorem dX3_level_14 : decode cX3_level 14 = .ok (.invokevirtual 97, 3) := by decide +kernel
theorem dX3_level_17 : decode cX3_level 17 = .ok (.ifCond .eq 12, 3) := by decide +kernel
theorem dX3_level_20 : decode cX3_level 20 = .ok (.aload_n 0, 1) := by decide +kernel
theorem dX3_level_21 : decode cX3_level 21 = .ok (.getfield 13, 3) := by decide +kernel
theorem dX3_level_24 : decode cX3_level 24 = .ok (.iload_n 1, 1) := by decide +kernel
theorem dX3_level_25 : decode cX3_level 25 = .ok (.iaload, 1) := by decide +kernel
theorem dX3_level_26 : decode cX3_level 26 = .ok (.goto 4, 3) := by decide +kernel
theorem dX3_level_29 : decode cX3_level 29 = .ok (.iconst 0, 1) := by decide +kernel
theorem dX3_level_30 : decode cX3_level 30 = .ok (.ireturn, 1) := by decide +kernel
theorem dX3_size_0 : decode cX3_size 0 = .ok (.aload_n 0, 1) := by decide +kernel
theorem dX3_size_1 : decode cX3_size 1 = .ok (.aload_n 0, 1) := by decide +kernel
theorem dX3_size_2 : decode cX3_size 2 = .ok (.iload_n 1, 1) := by decide +kernel
theorem dX3_size_3 : decode cX3_size 3 = .ok (.invokevirtual 127, 3) := by decide +kernel
theorem dX3_size_6 : decode cX3_size 6 = .ok (.ifCond .eq 7, 3) := by decide +kernel
theorem dX3_size_9 : decode cX3_size 9 = .ok (.iconst 0, 1) := by decide +kernel
theorem dX3_size_10 : decode cX3_size 10 = .ok (.goto 4, 3) := by decide +kernel
theorem dX3_size_13 : decode cX3_size 13 = .ok (.iconst 1, 1) := by decide +kernel
theorem dX3_size_14 : decode cX3_size 14 = .ok (.invokevirtual 97, 3) := by decide +kernel
theorem dX3_size_17 : decode cX3_size 17 = .ok (.ifCond .eq 12, 3) := by decide +kernel
theorem dX3_size_20 : decode cX3_size 20 = .ok (.aload_n 0, 1) := by decide +kernel
theorem dX3_size_21 : decode cX3_size 21 = .ok (.getfield 26, 3) := by decide +kernel
theorem dX3_size_24 : decode cX3_size 24 = .ok (.iload_n 1, 1) := by decide +kernel
theorem dX3_size_25 : decode cX3_size 25 = .ok (.iaload, 1) := by decide +kernel
theorem dX3_size_26 : decode cX3_size 26 = .ok (.goto 4, 3) := by decide +kernel
theorem dX3_size_29 : decode cX3_size 29 = .ok (.iconst 0, 1) := by decide +kernel
theorem dX3_size_30 : decode cX3_size 30 = .ok (.ireturn, 1) := by decide +kernel
theorem dX3_keyAt_0 : decode cX3_keyAt 0 = .ok (.aload_n 0, 1) := by decide +kernel
theorem dX3_keyAt_1 : decode cX3_keyAt 1 = .ok (.aload_n 0, 1) := by decide +kernel
theorem dX3_keyAt_2 : decode cX3_keyAt 2 = .ok (.iload_n 1, 1) := by decide +kernel
theorem dX3_keyAt_3 : decode cX3_keyAt 3 = .ok (.invokevirtual 127, 3) := by decide +kernel
theorem dX3_keyAt_6 : decode cX3_keyAt 6 = .ok (.ifCond .eq 11, 3) := by decide +kernel
theorem dX3_keyAt_9 : decode cX3_keyAt 9 = .ok (.iload_n 2, 1) := by decide +kernel
theorem dX3_keyAt_10 : decode cX3_keyAt 10 = .ok (.ifCond .lt 7, 3) := by decide +kernel
theorem dX3_keyAt_13 : decode cX3_keyAt 13 = .ok (.iconst 0, 1) := by decide +kernel
theorem dX3_keyAt_14 : decode cX3_keyAt 14 = .ok (.goto 4, 3) := by decide +kernel
theorem dX3_keyAt_17 : decode cX3_keyAt 17 = .ok (.iconst 1, 1) := by decide +kernel
theorem dX3_keyAt_18 : decode cX3_keyAt 18 = .ok (.invokevirtual 97, 3) := by decide +kernel
theorem dX3_keyAt_21 : decode cX3_keyAt 21 = .ok (.ifCond .ne 7, 3) := by decide +kernel
theorem dX3_keyAt_24 : decode cX3_keyAt 24 = .ok (.iconst 0, 1) := by decide +kernel
theorem dX3_keyAt_25 : decode cX3_keyAt 25 = .ok (.goto 27, 3) := by decide +kernel
theorem dX3_keyAt_28 : decode cX3_keyAt 28 = .ok (.iload_n 2, 1) := by decide +kernel
theorem dX3_keyAt_29 : decode cX3_keyAt 29 = .ok (.aload_n 0, 1) := by decide +kernel
theorem dX3_keyAt_30 : decode cX3_keyAt 30 = .ok (.getfield 26, 3) := by decide +kernel
theorem dX3_keyAt_33 : decode cX3_keyAt 33 = .ok (.iload_n 1, 1) := by decide +kernel
theorem dX3_keyAt_34 : decode cX3_keyAt 34 = .ok (.iaload, 1) := by decide +kernel
theorem dX3_keyAt_35 : decode cX3_keyAt 35 = .ok (.if_icmp .ge 16, 3) := by decide +kernel
theorem dX3_keyAt_38 : decode cX3_keyAt 38 = .ok (.aload_n 0, 1) := by decide +kernel
theorem dX3_keyAt_39 : decode cX3_keyAt 39 = .ok (.getfield 29, 3) := by decide +kernel
theorem dX3_keyAt_42 : decode cX3_keyAt 42 = .ok (.iconst 5, 1) := by decide +kernel
theorem dX3_keyAt_43 : decode cX3_keyAt 43 = .ok (.iload_n 1, 1) := by decide +kernel
theorem dX3_keyAt_44 : decode cX3_keyAt 44 = .ok (.imul, 1) := by decide +kernel
theorem dX3_keyAt_45 : decode cX3_keyAt 45 = .ok (.iload_n 2, 1) := by decide +kernel
theorem dX3_keyAt_46 : decode cX3_keyAt 46 = .ok (.iadd, 1) := by decide +kernel
theorem dX3_keyAt_47 : decode cX3_keyAt 47 = .ok (.iaload, 1) := by decide +kernel
theorem dX3_keyAt_48 : decode cX3_keyAt 48 = .ok (.goto 4, 3) := by decide +kernel
theorem dX3_keyAt_51 : decode cX3_keyAt 51 = .ok (.iconst (-1), 1) := by decide +kernel
theorem dX3_keyAt_52 : decode cX3_keyAt 52 = .ok (.ireturn, 1) := by decide +kernel
theorem dX3_below_0 : decode cX3_below 0 = .ok (.aload_n 0, 1) := by decide +kernel
theorem dX3_below_1 : decode cX3_below 1 = .ok (.aload_n 0, 1) := by decide +kernel
theorem dX3_below_2 : decode cX3_below 2 = .ok (.iload_n 1, 1) := by decide +kernel
theorem dX3_below_3 : decode cX3_below 3 = .ok (.invokevirtual 127, 3) := by decide +kernel
theorem dX3_below_6 : decode cX3_below 6 = .ok (.ifCond .eq 11, 3) := by decide +kernel
theorem dX3_below_9 : decode cX3_below 9 = .ok (.iload_n 2, 1) := by decide +kernel
theorem dX3_below_10 : decode cX3_below 10 = .ok (.ifCond .lt 7, 3) := by decide +kernel
theorem dX3_below_13 : decode cX3_below 13 = .ok (.iconst 0, 1) := by decide +kernel
theorem dX3_below_14 : decode cX3_below 14 = .ok (.goto 4, 3) := by decide +kernel
theorem dX3_below_17 : decode cX3_below 17 = .ok (.iconst 1, 1) := by decide +kernel
theorem dX3_below_18 : decode cX3_below 18 = .ok (.invokevirtual 97, 3) := by decide +kernel
theorem dX3_below_21 : decode cX3_below 21 = .ok (.ifCond .ne 7, 3) := by decide +kernel
theorem dX3_below_24 : decode cX3_below 24 = .ok (.iconst 0, 1) := by decide +kernel
theorem dX3_below_25 : decode cX3_below 25 = .ok (.goto 36, 3) := by decide +kernel
theorem dX3_below_28 : decode cX3_below 28 = .ok (.iload_n 2, 1) := by decide +kernel
theorem dX3_below_29 : decode cX3_below 29 = .ok (.aload_n 0, 1) := by decide +kernel
theorem dX3_below_30 : decode cX3_below 30 = .ok (.getfield 26, 3) := by decide +kernel
theorem dX3_below_33 : decode cX3_below 33 = .ok (.iload_n 1, 1) := by decide +kernel
theorem dX3_below_34 : decode cX3_below 34 = .ok (.iaload, 1) := by decide +kernel
theorem dX3_below_35 : decode cX3_below 35 = .ok (.if_icmp .ge 25, 3) := by decide +kernel
theorem dX3_below_38 : decode cX3_below 38 = .ok (.aload_n 0, 1) := by decide +kernel
theorem dX3_below_39 : decode cX3_below 39 = .ok (.getfield 13, 3) := by decide +kernel
theorem dX3_below_42 : decode cX3_below 42 = .ok (.iload_n 1, 1) := by decide +kernel
theorem dX3_below_43 : decode cX3_below 43 = .ok (.iaload, 1) := by decide +kernel
theorem dX3_below_44 : decode cX3_below 44 = .ok (.ifCond .le 16, 3) := by decide +kernel
theorem dX3_below_47 : decode cX3_below 47 = .ok (.aload_n 0, 1) := by decide +kernel
theorem dX3_below_48 : decode cX3_below 48 = .ok (.getfield 32, 3) := by decide +kernel
theorem dX3_below_51 : decode cX3_below 51 = .ok (.iconst 5, 1) := by decide +kernel
theorem dX3_below_52 : decode cX3_below 52 = .ok (.iload_n 1, 1) := by decide +kernel
theorem dX3_below_53 : decode cX3_below 53 = .ok (.imul, 1) := by decide +kernel
theorem dX3_below_54 : decode cX3_below 54 = .ok (.iload_n 2, 1) := by decide +kernel
theorem dX3_below_55 : decode cX3_below 55 = .ok (.iadd, 1) := by decide +kernel
theorem dX3_below_56 : decode cX3_below 56 = .ok (.iaload, 1) := by decide +kernel
theorem dX3_below_57 : decode cX3_below 57 = .ok (.goto 4, 3) := by decide +kernel
theorem dX3_below_60 : decode cX3_below 60 = .ok (.iconst (-1), 1) := by decide +kernel
theorem dX3_below_61 : decode cX3_below 61 = .ok (.ireturn, 1) := by decide +kernel
theorem dX3_high_0 : decode cX3_high 0 = .ok (.aload_n 0, 1) := by decide +kernel
theorem dX3_high_1 : decode cX3_high 1 = .ok (.aload_n 0, 1) := by decide +kernel
theorem dX3_high_2 : decode cX3_high 2 = .ok (.iload_n 1, 1) := by decide +kernel
theorem dX3_high_3 : decode cX3_high 3 = .ok (.invokevirtual 127, 3) := by decide +kernel
theorem dX3_high_6 : decode cX3_high 6 = .ok (.ifCond .eq 7, 3) := by decide +kernel
theorem dX3_high_9 : decode cX3_high 9 = .ok (.iconst 0, 1) := by decide +kernel
theorem dX3_high_10 : decode cX3_high 10 = .ok (.goto 4, 3) := by decide +kernel
theorem dX3_high_13 : decode cX3_high 13 = .ok (.iconst 1, 1) := by decide +kernel
theorem dX3_high_14 : decode cX3_high 14 = .ok (.invokevirtual 97, 3) := by decide +kernel
theorem dX3_high_17 : decode cX3_high 17 = .ok (.ifCond .eq 12, 3) := by decide +kernel
theorem dX3_high_20 : decode cX3_high 20 = .ok (.aload_n 0, 1) := by decide +kernel
theorem dX3_high_21 : decode cX3_high 21 = .ok (.getfield 20, 3) := by decide +kernel
theorem dX3_high_24 : decode cX3_high 24 = .ok (.iload_n 1, 1) := by decide +kernel
theorem dX3_high_25 : decode cX3_high 25 = .ok (.iaload, 1) := by decide +kernel
theorem dX3_high_26 : decode cX3_high 26 = .ok (.goto 4, 3) := by decide +kernel
theorem dX3_high_29 : decode cX3_high 29 = .ok (.iconst 0, 1) := by decide +kernel
theorem dX3_high_30 : decode cX3_high 30 = .ok (.ireturn, 1) := by decide +kernel
theorem dX3_right_0 : decode cX3_right 0 = .ok (.aload_n 0, 1) := by decide +kernel
theorem dX3_right_1 : decode cX3_right 1 = .ok (.aload_n 0, 1) := by decide +kernel
theorem dX3_right_2 : decode cX3_right 2 = .ok (.iload_n 1, 1) := by decide +kernel
theorem dX3_right_3 : decode cX3_right 3 = .ok (.invokevirtual 127, 3) := by decide +kernel
theorem dX3_right_6 : decode cX3_right 6 = .ok (.ifCond .eq 7, 3) := by decide +kernel
theorem dX3_right_9 : decode cX3_right 9 = .ok (.iconst 0, 1) := by decide +kernel
theorem dX3_right_10 : decode cX3_right 10 = .ok (.goto 4, 3) := by decide +kernel
theorem dX3_right_13 : decode cX3_right 13 = .ok (.iconst 1, 1) := by decide +kernel
theorem dX3_right_14 : decode cX3_right 14 = .ok (.invokevirtual 97, 3) := by decide +kernel
theorem dX3_right_17 : decode cX3_right 17 = .ok (.ifCond .eq 12, 3) := by decide +kernel
theorem dX3_right_20 : decode cX3_right 20 = .ok (.aload_n 0, 1) := by decide +kernel
theorem dX3_right_21 : decode cX3_right 21 = .ok (.getfield 23, 3) := by decide +kernel
theorem dX3_right_24 : decode cX3_right 24 = .ok (.iload_n 1, 1) := by decide +kernel
theorem dX3_right_25 : decode cX3_right 25 = .ok (.iaload, 1) := by decide +kernel
theorem dX3_right_26 : decode cX3_right 26 = .ok (.goto 4, 3) := by decide +kernel
theorem dX3_right_29 : decode cX3_right 29 = .ok (.iconst 0, 1) := by decide +kernel
theorem dX3_right_30 : decode cX3_right 30 = .ok (.ireturn, 1) := by decide +kernel
theorem dX3_links_0 : decode cX3_links 0 = .ok (.aload_n 0, 1) := by decide +kernel
theorem dX3_links_1 : decode cX3_links 1 = .ok (.iload_n 1, 1) := by decide +kernel
theorem dX3_links_2 : decode cX3_links 2 = .ok (.invokestatic 93, 3) := by decide +kernel
theorem dX3_links_5 : decode cX3_links 5 = .ok (.ifCond .eq 7, 3) := by decide +kernel
theorem dX3_links_8 : decode cX3_links 8 = .ok (.iconst 0, 1) := by decide +kernel
theorem dX3_links_9 : decode cX3_links 9 = .ok (.goto 4, 3) := by decide +kernel
theorem dX3_links_12 : decode cX3_links 12 = .ok (.iconst 1, 1) := by decide +kernel
theorem dX3_links_13 : decode cX3_links 13 = .ok (.invokevirtual 97, 3) := by decide +kernel
theorem dX3_links_16 : decode cX3_links 16 = .ok (.ifCond .ne 5, 3) := by decide +kernel
theorem dX3_links_19 : decode cX3_links 19 = .ok (.iconst 0, 1) := by decide +kernel
theorem dX3_links_20 : decode cX3_links 20 = .ok (.ireturn, 1) := by decide +kernel
theorem dX3_links_21 : decode cX3_links 21 = .ok (.aload_n 0, 1) := by decide +kernel
theorem dX3_links_22 : decode cX3_links 22 = .ok (.iload_n 1, 1) := by decide +kernel
theorem dX3_links_23 : decode cX3_links 23 = .ok (.iconst 0, 1) := by decide +kernel
theorem dX3_links_24 : decode cX3_links 24 = .ok (.invokevirtual 86, 3) := by decide +kernel
theorem dX3_links_27 : decode cX3_links 27 = .ok (.istore_n 2, 1) := by decide +kernel
theorem dX3_links_28 : decode cX3_links 28 = .ok (.aload_n 0, 1) := by decide +kernel
theorem dX3_links_29 : decode cX3_links 29 = .ok (.getfield 7, 3) := by decide +kernel
theorem dX3_links_32 : decode cX3_links 32 = .ok (.iload_n 2, 1) := by decide +kernel
theorem dX3_links_33 : decode cX3_links 33 = .ok (.baload, 1) := by decide +kernel
theorem dX3_links_34 : decode cX3_links 34 = .ok (.ifCond .eq 10, 3) := by decide +kernel
theorem dX3_links_37 : decode cX3_links 37 = .ok (.aload_n 0, 1) := by decide +kernel
theorem dX3_links_38 : decode cX3_links 38 = .ok (.getfield 68, 3) := by decide +kernel
theorem dX3_links_41 : decode cX3_links 41 = .ok (.goto 4, 3) := by decide +kernel
theorem dX3_links_44 : decode cX3_links 44 = .ok (.iconst 0, 1) := by decide +kernel
theorem dX3_links_45 : decode cX3_links 45 = .ok (.ireturn, 1) := by decide +kernel
theorem dX3_open_0 : decode cX3_open 0 = .ok (.aload_n 0, 1) := by decide +kernel
theorem dX3_open_1 : decode cX3_open 1 = .ok (.iload_n 1, 1) := by decide +kernel
theorem dX3_open_2 : decode cX3_open 2 = .ok (.invokestatic 93, 3) := by decide +kernel
theorem dX3_open_5 : decode cX3_open 5 = .ok (.ifCond .ne 7, 3) := by decide +kernel
theorem dX3_open_8 : decode cX3_open 8 = .ok (.iconst 1, 1) := by decide +kernel
theorem dX3_open_9 : decode cX3_open 9 = .ok (.goto 17, 3) := by decide +kernel
theorem dX3_open_12 : decode cX3_open 12 = .ok (.aload_n 0, 1) := by decide +kernel
theorem dX3_open_13 : decode cX3_open 13 = .ok (.getfield 121, 3) := by decide +kernel
theorem dX3_open_16 : decode cX3_open 16 = .ok (.bipush 20, 2) := by decide +kernel
theorem dX3_open_18 : decode cX3_open 18 = .ok (.if_icmp .ne 7, 3) := by decide +kernel
theorem dX3_open_21 : decode cX3_open 21 = .ok (.iconst 2, 1) := by decide +kernel
theorem dX3_open_22 : decode cX3_open 22 = .ok (.goto 4, 3) := by decide +kernel
theorem dX3_open_25 : decode cX3_open 25 = .ok (.iconst 0, 1) := by decide +kernel
theorem dX3_open_26 : decode cX3_open 26 = .ok (.invokevirtual 97, 3) := by decide +kernel
theorem dX3_open_29 : decode cX3_open 29 = .ok (.ifCond .ne 5, 3) := by decide +kernel
theorem dX3_open_32 : decode cX3_open 32 = .ok (.iconst 0, 1) := by decide +kernel
theorem dX3_open_33 : decode cX3_open 33 = .ok (.ireturn, 1) := by decide +kernel
theorem dX3_open_34 : decode cX3_open 34 = .ok (.aload_n 0, 1) := by decide +kernel
theorem dX3_open_35 : decode cX3_open 35 = .ok (.getfield 41, 3) := by decide +kernel
theorem dX3_open_38 : decode cX3_open 38 = .ok (.aload_n 0, 1) := by decide +kernel
theorem dX3_open_39 : decode cX3_open 39 = .ok (.getfield 121, 3) := by decide +kernel
theorem dX3_open_42 : decode cX3_open 42 = .ok (.iconst 1, 1) := by decide +kernel
theorem dX3_open_43 : decode cX3_open 43 = .ok (.bastore, 1) := by decide +kernel
theorem dX3_open_44 : decode cX3_open 44 = .ok (.aload_n 0, 1) := by decide +kernel
theorem dX3_open_45 : decode cX3_open 45 = .ok (.getfield 44, 3) := by decide +kernel
theorem dX3_open_48 : decode cX3_open 48 = .ok (.aload_n 0, 1) := by decide +kernel
theorem dX3_open_49 : decode cX3_open 49 = .ok (.getfield 121, 3) := by decide +kernel
theorem dX3_open_52 : decode cX3_open 52 = .ok (.aload_n 0, 1) := by decide +kernel
theorem dX3_open_53 : decode cX3_open 53 = .ok (.iload_n 1, 1) := by decide +kernel
theorem dX3_open_54 : decode cX3_open 54 = .ok (.iconst 0, 1) := by decide +kernel
theorem dX3_open_55 : decode cX3_open 55 = .ok (.invokevirtual 86, 3) := by decide +kernel
theorem dX3_open_58 : decode cX3_open 58 = .ok (.iastore, 1) := by decide +kernel
theorem dX3_open_59 : decode cX3_open 59 = .ok (.aload_n 0, 1) := by decide +kernel
theorem dX3_open_60 : decode cX3_open 60 = .ok (.getfield 47, 3) := by decide +kernel
theorem dX3_open_63 : decode cX3_open 63 = .ok (.aload_n 0, 1) := by decide +kernel
theorem dX3_open_64 : decode cX3_open 64 = .ok (.getfield 121, 3) := by decide +kernel
theorem dX3_open_67 : decode cX3_open 67 = .ok (.iload_n 1, 1) := by decide +kernel
theorem dX3_open_68 : decode cX3_open 68 = .ok (.iconst 1, 1) := by decide +kernel
theorem dX3_open_69 : decode cX3_open 69 = .ok (.isub, 1) := by decide +kernel
theorem dX3_open_70 : decode cX3_open 70 = .ok (.iastore, 1) := by decide +kernel
theorem dX3_open_71 : decode cX3_open 71 = .ok (.aload_n 0, 1) := by decide +kernel
theorem dX3_open_72 : decode cX3_open 72 = .ok (.getfield 50, 3) := by decide +kernel
theorem dX3_open_75 : decode cX3_open 75 = .ok (.aload_n 0, 1) := by decide +kernel
theorem dX3_open_76 : decode cX3_open 76 = .ok (.getfield 121, 3) := by decide +kernel
theorem dX3_open_79 : decode cX3_open 79 = .ok (.aload_n 0, 1) := by decide +kernel
theorem dX3_open_80 : decode cX3_open 80 = .ok (.getfield 118, 3) := by decide +kernel
theorem dX3_open_83 : decode cX3_open 83 = .ok (.iastore, 1) := by decide +kernel
theorem dX3_open_84 : decode cX3_open 84 = .ok (.aload_n 0, 1) := by decide +kernel
theorem dX3_open_85 : decode cX3_open 85 = .ok (.dup, 1) := by decide +kernel
theorem dX3_open_86 : decode cX3_open 86 = .ok (.getfield 121, 3) := by decide +kernel
theorem dX3_open_89 : decode cX3_open 89 = .ok (.iconst 1, 1) := by decide +kernel
theorem dX3_open_90 : decode cX3_open 90 = .ok (.iadd, 1) := by decide +kernel
theorem dX3_open_91 : decode cX3_open 91 = .ok (.putfield 121, 3) := by decide +kernel
theorem dX3_open_94 : decode cX3_open 94 = .ok (.aload_n 0, 1) := by decide +kernel
theorem dX3_open_95 : decode cX3_open 95 = .ok (.getfield 121, 3) := by decide +kernel
theorem dX3_open_98 : decode cX3_open 98 = .ok (.iconst 1, 1) := by decide +kernel
theorem dX3_open_99 : decode cX3_open 99 = .ok (.isub, 1) := by decide +kernel
theorem dX3_open_100 : decode cX3_open 100 = .ok (.ireturn, 1) := by decide +kernel
theorem dX3_isCursor_0 : decode cX3_isCursor 0 = .ok (.iload_n 1, 1) := by decide +kernel
theorem dX3_isCursor_1 : decode cX3_isCursor 1 = .ok (.iconst 0, 1) := by decide +kernel
theorem dX3_isCursor_2 : decode cX3_isCursor 2 = .ok (.aload_n 0, 1) := by decide +kernel
theorem dX3_isCursor_3 : decode cX3_isCursor 3 = .ok (.getfield 121, 3) := by decide +kernel
theorem dX3_isCursor_6 : decode cX3_isCursor 6 = .ok (.iconst 1, 1) := by decide +kernel
theorem dX3_isCursor_7 : decode cX3_isCursor 7 = .ok (.isub, 1) := by decide +kernel
theorem dX3_isCursor_8 : decode cX3_isCursor 8 = .ok (.invokestatic 64, 3) := by decide +kernel
theorem dX3_isCursor_11 : decode cX3_isCursor 11 = .ok (.ifCond .eq 16, 3) := by decide +kernel
theorem dX3_isCursor_14 : decode cX3_isCursor 14 = .ok (.aload_n 0, 1) := by decide +kernel
theorem dX3_isCursor_15 : decode cX3_isCursor 15 = .ok (.getfield 41, 3) := by decide +kernel
theorem dX3_isCursor_18 : decode cX3_isCursor 18 = .ok (.iload_n 1, 1) := by decide +kernel
theorem dX3_isCursor_19 : decode cX3_isCursor 19 = .ok (.baload, 1) := by decide +kernel
theorem dX3_isCursor_20 : decode cX3_isCursor 20 = .ok (.ifCond .eq 7, 3) := by decide +kernel
theorem dX3_isCursor_23 : decode cX3_isCursor 23 = .ok (.iconst 1, 1) := by decide +kernel
theorem dX3_isCursor_24 : decode cX3_isCursor 24 = .ok (.goto 4, 3) := by decide +kernel
theorem dX3_isCursor_27 : decode cX3_isCursor 27 = .ok (.iconst 0, 1) := by decide +kernel
theorem dX3_isCursor_28 : decode cX3_isCursor 28 = .ok (.ireturn, 1) := by decide +kernel
theorem dX3_next_0 : decode cX3_next 0 = .ok (.aload_n 0, 1) := by decide +kernel
theorem dX3_next_1 : decode cX3_next 1 = .ok (.aload_n 0, 1) := by decide +kernel
theorem dX3_next_2 : decode cX3_next 2 = .ok (.iload_n 1, 1) := by decide +kernel
theorem dX3_next_3 : decode cX3_next 3 = .ok (.invokevirtual 130, 3) := by decide +kernel
theorem dX3_next_6 : decode cX3_next 6 = .ok (.ifCond .eq 7, 3) := by decide +kernel
theorem dX3_next_9 : decode cX3_next 9 = .ok (.iconst 0, 1) := by decide +kernel
theorem dX3_next_10 : decode cX3_next 10 = .ok (.goto 4, 3) := by decide +kernel
theorem dX3_next_13 : decode cX3_next 13 = .ok (.iconst 1, 1) := by decide +kernel
theorem dX3_next_14 : decode cX3_next 14 = .ok (.invokevirtual 97, 3) := by decide +kernel
theorem dX3_next_17 : decode cX3_next 17 = .ok (.ifCond .ne 5, 3) := by decide +kernel
theorem dX3_next_20 : decode cX3_next 20 = .ok (.iconst 0, 1) := by decide +kernel
theorem dX3_next_21 : decode cX3_next 21 = .ok (.ireturn, 1) := by decide +kernel
theorem dX3_next_22 : decode cX3_next 22 = .ok (.aload_n 0, 1) := by decide +kernel
theorem dX3_next_23 : decode cX3_next 23 = .ok (.getfield 44, 3) := by decide +kernel
theorem dX3_next_26 : decode cX3_next 26 = .ok (.iload_n 1, 1) := by decide +kernel
theorem dX3_next_27 : decode cX3_next 27 = .ok (.iaload, 1) := by decide +kernel
theorem dX3_next_28 : decode cX3_next 28 = .ok (.istore_n 2, 1) := by decide +kernel
theorem dX3_next_29 : decode cX3_next 29 = .ok (.aload_n 0, 1) := by decide +kernel
theorem dX3_next_30 : decode cX3_next 30 = .ok (.iload_n 2, 1) := by decide +kernel
theorem dX3_next_31 : decode cX3_next 31 = .ok (.aload_n 0, 1) := by decide +kernel
theorem dX3_next_32 : decode cX3_next 32 = .ok (.getfield 47, 3) := by decide +kernel
theorem dX3_next_35 : decode cX3_next 35 = .ok (.iload_n 1, 1) := by decide +kernel
theorem dX3_next_36 : decode cX3_next 36 = .ok (.iaload, 1) := by decide +kernel
theorem dX3_next_37 : decode cX3_next 37 = .ok (.invokevirtual 71, 3) := by decide +kernel
theorem dX3_next_40 : decode cX3_next 40 = .ok (.iconst 1, 1) := by decide +kernel
theorem dX3_next_41 : decode cX3_next 41 = .ok (.iadd, 1) := by decide +kernel
theorem dX3_next_42 : decode cX3_next 42 = .ok (.istore_n 3, 1) := by decide +kernel
theorem dX3_next_43 : decode cX3_next 43 = .ok (.iload_n 3, 1) := by decide +kernel
theorem dX3_next_44 : decode cX3_next 44 = .ok (.aload_n 0, 1) := by decide +kernel
theorem dX3_next_45 : decode cX3_next 45 = .ok (.getfield 26, 3) := by decide +kernel
theorem dX3_next_48 : decode cX3_next 48 = .ok (.iload_n 2, 1) := by decide +kernel
theorem dX3_next_49 : decode cX3_next 49 = .ok (.iaload, 1) := by decide +kernel
theorem dX3_next_50 : decode cX3_next 50 = .ok (.if_icmp .lt 37, 3) := by decide +kernel
theorem dX3_next_53 : decode cX3_next 53 = .ok (.aload_n 0, 1) := by decide +kernel
theorem dX3_next_54 : decode cX3_next 54 = .ok (.getfield 23, 3) := by decide +kernel
theorem dX3_next_57 : decode cX3_next 57 = .ok (.iload_n 2, 1) := by decide +kernel
theorem dX3_next_58 : decode cX3_next 58 = .ok (.iaload, 1) := by decide +kernel
theorem dX3_next_59 : decode cX3_next 59 = .ok (.iconst (-1), 1) := by decide +kernel
theorem dX3_next_60 : decode cX3_next 60 = .ok (.if_icmp .eq 27, 3) := by decide +kernel
theorem dX3_next_63 : decode cX3_next 63 = .ok (.aload_n 0, 1) := by decide +kernel
theorem dX3_next_64 : decode cX3_next 64 = .ok (.getfield 23, 3) := by decide +kernel
theorem dX3_next_67 : decode cX3_next 67 = .ok (.iload_n 2, 1) := by decide +kernel
theorem dX3_next_68 : decode cX3_next 68 = .ok (.iaload, 1) := by decide +kernel
theorem dX3_next_69 : decode cX3_next 69 = .ok (.istore_n 2, 1) := by decide +kernel
theorem dX3_next_70 : decode cX3_next 70 = .ok (.aload_n 0, 1) := by decide +kernel
theorem dX3_next_71 : decode cX3_next 71 = .ok (.iload_n 2, 1) := by decide +kernel
theorem dX3_next_72 : decode cX3_next 72 = .ok (.aload_n 0, 1) := by decide +kernel
theorem dX3_next_73 : decode cX3_next 73 = .ok (.getfield 47, 3) := by decide +kernel
theorem dX3_next_76 : decode cX3_next 76 = .ok (.iload_n 1, 1) := by decide +kernel
theorem dX3_next_77 : decode cX3_next 77 = .ok (.iaload, 1) := by decide +kernel
theorem dX3_next_78 : decode cX3_next 78 = .ok (.invokevirtual 71, 3) := by decide +kernel
theorem dX3_next_81 : decode cX3_next 81 = .ok (.iconst 1, 1) := by decide +kernel
theorem dX3_next_82 : decode cX3_next 82 = .ok (.iadd, 1) := by decide +kernel
theorem dX3_next_83 : decode cX3_next 83 = .ok (.istore_n 3, 1) := by decide +kernel
theorem dX3_next_84 : decode cX3_next 84 = .ok (.goto (-41), 3) := by decide +kernel
theorem dX3_next_87 : decode cX3_next 87 = .ok (.aload_n 0, 1) := by decide +kernel
theorem dX3_next_88 : decode cX3_next 88 = .ok (.getfield 44, 3) := by decide +kernel
theorem dX3_next_91 : decode cX3_next 91 = .ok (.iload_n 1, 1) := by decide +kernel
theorem dX3_next_92 : decode cX3_next 92 = .ok (.iload_n 2, 1) := by decide +kernel
theorem dX3_next_93 : decode cX3_next 93 = .ok (.iastore, 1) := by decide +kernel
theorem dX3_next_94 : decode cX3_next 94 = .ok (.aload_n 0, 1) := by decide +kernel
theorem dX3_next_95 : decode cX3_next 95 = .ok (.getfield 47, 3) := by decide +kernel
theorem dX3_next_98 : decode cX3_next 98 = .ok (.iload_n 1, 1) := by decide +kernel
theorem dX3_next_99 : decode cX3_next 99 = .ok (.iload_n 3, 1) := by decide +kernel
theorem dX3_next_100 : decode cX3_next 100 = .ok (.aload_n 0, 1) := by decide +kernel
theorem dX3_next_101 : decode cX3_next 101 = .ok (.getfield 26, 3) := by decide +kernel
theorem dX3_next_104 : decode cX3_next 104 = .ok (.iload_n 2, 1) := by decide +kernel
theorem dX3_next_105 : decode cX3_next 105 = .ok (.iaload, 1) := by decide +kernel
theorem dX3_next_106 : decode cX3_next 106 = .ok (.if_icmp .ge 16, 3) := by decide +kernel
theorem dX3_next_109 : decode cX3_next 109 = .ok (.aload_n 0, 1) := by decide +kernel
theorem dX3_next_110 : decode cX3_next 110 = .ok (.getfield 29, 3) := by decide +kernel
theorem dX3_next_113 : decode cX3_next 113 = .ok (.iconst 5, 1) := by decide +kernel
theorem dX3_next_114 : decode cX3_next 114 = .ok (.iload_n 2, 1) := by decide +kernel
theorem dX3_next_115 : decode cX3_next 115 = .ok (.imul, 1) := by decide +kernel
theorem dX3_next_116 : decode cX3_next 116 = .ok (.iload_n 3, 1) := by decide +kernel
theorem dX3_next_117 : decode cX3_next 117 = .ok (.iadd, 1) := by decide +kernel
theorem dX3_next_118 : decode cX3_next 118 = .ok (.iaload, 1) := by decide +kernel
theorem dX3_next_119 : decode cX3_next 119 = .ok (.goto 9, 3) := by decide +kernel
theorem dX3_next_122 : decode cX3_next 122 = .ok (.aload_n 0, 1) := by decide +kernel
theorem dX3_next_123 : decode cX3_next 123 = .ok (.getfield 47, 3) := by decide +kernel
theorem dX3_next_126 : decode cX3_next 126 = .ok (.iload_n 1, 1) := by decide +kernel
theorem dX3_next_127 : decode cX3_next 127 = .ok (.iaload, 1) := by decide +kernel
theorem dX3_next_128 : decode cX3_next 128 = .ok (.iastore, 1) := by decide +kernel
theorem dX3_next_129 : decode cX3_next 129 = .ok (.iload_n 3, 1) := by decide +kernel
theorem dX3_next_130 : decode cX3_next 130 = .ok (.aload_n 0, 1) := by decide +kernel
theorem dX3_next_131 : decode cX3_next 131 = .ok (.getfield 26, 3) := by decide +kernel
theorem dX3_next_134 : decode cX3_next 134 = .ok (.iload_n 2, 1) := by decide +kernel
theorem dX3_next_135 : decode cX3_next 135 = .ok (.iaload, 1) := by decide +kernel
theorem dX3_next_136 : decode cX3_next 136 = .ok (.if_icmp .ge 12, 3) := by decide +kernel
theorem dX3_next_139 : decode cX3_next 139 = .ok (.aload_n 0, 1) := by decide +kernel
theorem dX3_next_140 : decode cX3_next 140 = .ok (.getfield 47, 3) := by decide +kernel
theorem dX3_next_143 : decode cX3_next 143 = .ok (.iload_n 1, 1) := by decide +kernel
theorem dX3_next_144 : decode cX3_next 144 = .ok (.iaload, 1) := by decide +kernel
theorem dX3_next_145 : decode cX3_next 145 = .ok (.goto 4, 3) := by decide +kernel
theorem dX3_next_148 : decode cX3_next 148 = .ok (.iconst (-1), 1) := by decide +kernel
theorem dX3_next_149 : decode cX3_next 149 = .ok (.ireturn, 1) := by decide +kernel
theorem dX3_leafOf_0 : decode cX3_leafOf 0 = .ok (.aload_n 0, 1) := by decide +kernel
theorem dX3_leafOf_1 : decode cX3_leafOf 1 = .ok (.aload_n 0, 1) := by decide +kernel
theorem dX3_leafOf_2 : decode cX3_leafOf 2 = .ok (.iload_n 1, 1) := by decide +kernel
theorem dX3_leafOf_3 : decode cX3_leafOf 3 = .ok (.invokevirtual 130, 3) := by decide +kernel
theorem dX3_leafOf_6 : decode cX3_leafOf 6 = .ok (.ifCond .eq 7, 3) := by decide +kernel
theorem dX3_leafOf_9 : decode cX3_leafOf 9 = .ok (.iconst 0, 1) := by decide +kernel
theorem dX3_leafOf_10 : decode cX3_leafOf 10 = .ok (.goto 4, 3) := by decide +kernel
theorem dX3_leafOf_13 : decode cX3_leafOf 13 = .ok (.iconst 1, 1) := by decide +kernel
theorem dX3_leafOf_14 : decode cX3_leafOf 14 = .ok (.invokevirtual 97, 3) := by decide +kernel
theorem dX3_leafOf_17 : decode cX3_leafOf 17 = .ok (.ifCond .eq 12, 3) := by decide +kernel
theorem dX3_leafOf_20 : decode cX3_leafOf 20 = .ok (.aload_n 0, 1) := by decide +kernel
theorem dX3_leafOf_21 : decode cX3_leafOf 21 = .ok (.getfield 44, 3) := by decide +kernel
theorem dX3_leafOf_24 : decode cX3_leafOf 24 = .ok (.iload_n 1, 1) := by decide +kernel
theorem dX3_leafOf_25 : decode cX3_leafOf 25 = .ok (.iaload, 1) := by decide +kernel
theorem dX3_leafOf_26 : decode cX3_leafOf 26 = .ok (.goto 4, 3) := by decide +kernel
theorem dX3_leafOf_29 : decode cX3_leafOf 29 = .ok (.iconst 0, 1) := by decide +kernel
theorem dX3_leafOf_30 : decode cX3_leafOf 30 = .ok (.ireturn, 1) := by decide +kernel
theorem dX3_close_0 : decode cX3_close 0 = .ok (.aload_n 0, 1) := by decide +kernel
theorem dX3_close_1 : decode cX3_close 1 = .ok (.aload_n 0, 1) := by decide +kernel
theorem dX3_close_2 : decode cX3_close 2 = .ok (.iload_n 1, 1) := by decide +kernel
theorem dX3_close_3 : decode cX3_close 3 = .ok (.invokevirtual 130, 3) := by decide +kernel
theorem dX3_close_6 : decode cX3_close 6 = .ok (.ifCond .eq 7, 3) := by decide +kernel
theorem dX3_close_9 : decode cX3_close 9 = .ok (.iconst 0, 1) := by decide +kernel
theorem dX3_close_10 : decode cX3_close 10 = .ok (.goto 4, 3) := by decide +kernel
theorem dX3_close_13 : decode cX3_close 13 = .ok (.iconst 1, 1) := by decide +kernel
theorem dX3_close_14 : decode cX3_close 14 = .ok (.invokevirtual 97, 3) := by decide +kernel
theorem dX3_close_17 : decode cX3_close 17 = .ok (.ifCond .ne 5, 3) := by decide +kernel
theorem dX3_close_20 : decode cX3_close 20 = .ok (.iconst 0, 1) := by decide +kernel
theorem dX3_close_21 : decode cX3_close 21 = .ok (.ireturn, 1) := by decide +kernel
theorem dX3_close_22 : decode cX3_close 22 = .ok (.aload_n 0, 1) := by decide +kernel
theorem dX3_close_23 : decode cX3_close 23 = .ok (.getfield 41, 3) := by decide +kernel
theorem dX3_close_26 : decode cX3_close 26 = .ok (.iload_n 1, 1) := by decide +kernel
theorem dX3_close_27 : decode cX3_close 27 = .ok (.iconst 0, 1) := by decide +kernel
theorem dX3_close_28 : decode cX3_close 28 = .ok (.bastore, 1) := by decide +kernel
theorem dX3_close_29 : decode cX3_close 29 = .ok (.iconst 0, 1) := by decide +kernel
theorem dX3_close_30 : decode cX3_close 30 = .ok (.istore_n 2, 1) := by decide +kernel
theorem dX3_close_31 : decode cX3_close 31 = .ok (.iconst 0, 1) := by decide +kernel
theorem dX3_close_32 : decode cX3_close 32 = .ok (.istore_n 3, 1) := by decide +kernel
theorem dX3_close_33 : decode cX3_close 33 = .ok (.iload_n 3, 1) := by decide +kernel
theorem dX3_close_34 : decode cX3_close 34 = .ok (.aload_n 0, 1) := by decide +kernel
theorem dX3_close_35 : decode cX3_close 35 = .ok (.getfield 121, 3) := by decide +kernel
theorem dX3_close_38 : decode cX3_close 38 = .ok (.if_icmp .ge 26, 3) := by decide +kernel
theorem dX3_close_41 : decode cX3_close 41 = .ok (.iload_n 2, 1) := by decide +kernel
theorem dX3_close_42 : decode cX3_close 42 = .ok (.aload_n 0, 1) := by decide +kernel
theorem dX3_close_43 : decode cX3_close 43 = .ok (.getfield 41, 3) := by decide +kernel
theorem dX3_close_46 : decode cX3_close 46 = .ok (.iload_n 3, 1) := by decide +kernel
theorem dX3_close_47 : decode cX3_close 47 = .ok (.baload, 1) := by decide +kernel
theorem dX3_close_48 : decode cX3_close 48 = .ok (.ifCond .eq 7, 3) := by decide +kernel
theorem dX3_close_51 : decode cX3_close 51 = .ok (.iconst 1, 1) := by decide +kernel
theorem dX3_close_52 : decode cX3_close 52 = .ok (.goto 4, 3) := by decide +kernel
theorem dX3_close_55 : decode cX3_close 55 = .ok (.iconst 0, 1) := by decide +kernel
theorem dX3_close_56 : decode cX3_close 56 = .ok (.iadd, 1) := by decide +kernel
theorem dX3_close_57 : decode cX3_close 57 = .ok (.istore_n 2, 1) := by decide +kernel
theorem dX3_close_58 : decode cX3_close 58 = .ok (.iinc 3 1, 3) := by decide +kernel
theorem dX3_close_61 : decode cX3_close 61 = .ok (.goto (-28), 3) := by decide +kernel
theorem dX3_close_64 : decode cX3_close 64 = .ok (.iload_n 2, 1) := by decide +kernel
theorem dX3_close_65 : decode cX3_close 65 = .ok (.ireturn, 1) := by decide +kernel
