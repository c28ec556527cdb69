/-! decode rows -/
theorem dX3_init_0 : decode cX3_init 0 = .ok (.aload_n 0, 1) := by decide +kernel
theorem dX3_init_1 : decode cX3_init 1 = .ok (.invokespecial 1, 3) := by decide +kernel
theorem dX3_init_4 : decode cX3_init 4 = .ok (.aload_n 0, 1) := by decide +kernel
theorem dX3_init_5 : decode cX3_init 5 = .ok (.sipush 800, 3) := by decide +kernel
theorem dX3_init_8 : decode cX3_init 8 = .ok (.newarray .boolean, 2) := by decide +kernel
theorem dX3_init_10 : decode cX3_init 10 = .ok (.putfield 7, 3) := by decide +kernel
theorem dX3_init_13 : decode cX3_init 13 = .ok (.aload_n 0, 1) := by decide +kernel
theorem dX3_init_14 : decode cX3_init 14 = .ok (.sipush 800, 3) := by decide +kernel
theorem dX3_init_17 : decode cX3_init 17 = .ok (.newarray .int, 2) := by decide +kernel
theorem dX3_init_19 : decode cX3_init 19 = .ok (.putfield 13, 3) := by decide +kernel
theorem dX3_init_22 : decode cX3_init 22 = .ok (.aload_n 0, 1) := by decide +kernel
theorem dX3_init_23 : decode cX3_init 23 = .ok (.sipush 800, 3) := by decide +kernel
theorem dX3_init_26 : decode cX3_init 26 = .ok (.newarray .int, 2) := by decide +kernel
theorem dX3_init_28 : decode cX3_init 28 = .ok (.putfield 17, 3) := by decide +kernel
theorem dX3_init_31 : decode cX3_init 31 = .ok (.aload_n 0, 1) := by decide +kernel
theorem dX3_init_32 : decode cX3_init 32 = .ok (.sipush 800, 3) := by decide +kernel
theorem dX3_init_35 : decode cX3_init 35 = .ok (.newarray .int, 2) := by decide +kernel
theorem dX3_init_37 : decode cX3_init 37 = .ok (.putfield 20, 3) := by decide +kernel
theorem dX3_init_40 : decode cX3_init 40 = .ok (.aload_n 0, 1) := by decide +kernel
theorem dX3_init_41 : decode cX3_init 41 = .ok (.sipush 800, 3) := by decide +kernel
theorem dX3_init_44 : decode cX3_init 44 = .ok (.newarray .int, 2) := by decide +kernel
theorem dX3_init_46 : decode cX3_init 46 = .ok (.putfield 23, 3) := by decide +kernel
theorem dX3_init_49 : decode cX3_init 49 = .ok (.aload_n 0, 1) := by decide +kernel
theorem dX3_init_50 : decode cX3_init 50 = .ok (.sipush 800, 3) := by decide +kernel
theorem dX3_init_53 : decode cX3_init 53 = .ok (.newarray .int, 2) := by decide +kernel
theorem dX3_init_55 : decode cX3_init 55 = .ok (.putfield 26, 3) := by decide +kernel
theorem dX3_init_58 : decode cX3_init 58 = .ok (.aload_n 0, 1) := by decide +kernel
theorem dX3_init_59 : decode cX3_init 59 = .ok (.sipush 4000, 3) := by decide +kernel
theorem dX3_init_62 : decode cX3_init 62 = .ok (.newarray .int, 2) := by decide +kernel
theorem dX3_init_64 : decode cX3_init 64 = .ok (.putfield 29, 3) := by decide +kernel
theorem dX3_init_67 : decode cX3_init 67 = .ok (.aload_n 0, 1) := by decide +kernel
theorem dX3_init_68 : decode cX3_init 68 = .ok (.sipush 4000, 3) := by decide +kernel
theorem dX3_init_71 : decode cX3_init 71 = .ok (.newarray .int, 2) := by decide +kernel
theorem dX3_init_73 : decode cX3_init 73 = .ok (.putfield 32, 3) := by decide +kernel
theorem dX3_init_76 : decode cX3_init 76 = .ok (.aload_n 0, 1) := by decide +kernel
theorem dX3_init_77 : decode cX3_init 77 = .ok (.sipush 800, 3) := by decide +kernel
theorem dX3_init_80 : decode cX3_init 80 = .ok (.newarray .int, 2) := by decide +kernel
theorem dX3_init_82 : decode cX3_init 82 = .ok (.putfield 35, 3) := by decide +kernel
theorem dX3_init_85 : decode cX3_init 85 = .ok (.aload_n 0, 1) := by decide +kernel
theorem dX3_init_86 : decode cX3_init 86 = .ok (.sipush 800, 3) := by decide +kernel
theorem dX3_init_89 : decode cX3_init 89 = .ok (.newarray .int, 2) := by decide +kernel
theorem dX3_init_91 : decode cX3_init 91 = .ok (.putfield 38, 3) := by decide +kernel
theorem dX3_init_94 : decode cX3_init 94 = .ok (.aload_n 0, 1) := by decide +kernel
theorem dX3_init_95 : decode cX3_init 95 = .ok (.bipush 20, 2) := by decide +kernel
theorem dX3_init_97 : decode cX3_init 97 = .ok (.newarray .boolean, 2) := by decide +kernel
theorem dX3_init_99 : decode cX3_init 99 = .ok (.putfield 41, 3) := by decide +kernel
theorem dX3_init_102 : decode cX3_init 102 = .ok (.aload_n 0, 1) := by decide +kernel
theorem dX3_init_103 : decode cX3_init 103 = .ok (.bipush 20, 2) := by decide +kernel
theorem dX3_init_105 : decode cX3_init 105 = .ok (.newarray .int, 2) := by decide +kernel
theorem dX3_init_107 : decode cX3_init 107 = .ok (.putfield 44, 3) := by decide +kernel
theorem dX3_init_110 : decode cX3_init 110 = .ok (.aload_n 0, 1) := by decide +kernel
theorem dX3_init_111 : decode cX3_init 111 = .ok (.bipush 20, 2) := by decide +kernel
theorem dX3_init_113 : decode cX3_init 113 = .ok (.newarray .int, 2) := by decide +kernel
theorem dX3_init_115 : decode cX3_init 115 = .ok (.putfield 47, 3) := by decide +kernel
theorem dX3_init_118 : decode cX3_init 118 = .ok (.aload_n 0, 1) := by decide +kernel
theorem dX3_init_119 : decode cX3_init 119 = .ok (.bipush 20, 2) := by decide +kernel
theorem dX3_init_121 : decode cX3_init 121 = .ok (.newarray .int, 2) := by decide +kernel
theorem dX3_init_123 : decode cX3_init 123 = .ok (.putfield 50, 3) := by decide +kernel
theorem dX3_init_126 : decode cX3_init 126 = .ok (.aload_n 0, 1) := by decide +kernel
theorem dX3_init_127 : decode cX3_init 127 = .ok (.aload_n 0, 1) := by decide +kernel
theorem dX3_init_128 : decode cX3_init 128 = .ok (.iconst 0, 1) := by decide +kernel
theorem dX3_init_129 : decode cX3_init 129 = .ok (.iconst 0, 1) := by decide +kernel
theorem dX3_init_130 : decode cX3_init 130 = .ok (.sipush 200, 3) := by decide +kernel
theorem dX3_init_133 : decode cX3_init 133 = .ok (.iconst (-1), 1) := by decide +kernel
theorem dX3_init_134 : decode cX3_init 134 = .ok (.invokevirtual 53, 3) := by decide +kernel
theorem dX3_init_137 : decode cX3_init 137 = .ok (.putfield 57, 3) := by decide +kernel
theorem dX3_init_140 : decode cX3_init 140 = .ok (.return_, 1) := by decide +kernel
theorem dX3_thrown_0 : decode cX3_thrown 0 = .ok (.aload_n 0, 1) := by decide +kernel
theorem dX3_thrown_1 : decode cX3_thrown 1 = .ok (.getfield 61, 3) := by decide +kernel
theorem dX3_thrown_4 : decode cX3_thrown 4 = .ok (.ireturn, 1) := by decide +kernel
theorem dX3_holds_0 : decode cX3_holds 0 = .ok (.aload_n 0, 1) := by decide +kernel
theorem dX3_holds_1 : decode cX3_holds 1 = .ok (.iload_n 1, 1) := by decide +kernel
theorem dX3_holds_2 : decode cX3_holds 2 = .ok (.putfield 61, 3) := by decide +kernel
theorem dX3_holds_5 : decode cX3_holds 5 = .ok (.iload_n 1, 1) := by decide +kernel
theorem dX3_holds_6 : decode cX3_holds 6 = .ok (.ifCond .ne 7, 3) := by decide +kernel
theorem dX3_holds_9 : decode cX3_holds 9 = .ok (.iconst 1, 1) := by decide +kernel
theorem dX3_holds_10 : decode cX3_holds 10 = .ok (.goto 4, 3) := by decide +kernel
theorem dX3_holds_13 : decode cX3_holds 13 = .ok (.iconst 0, 1) := by decide +kernel
theorem dX3_holds_14 : decode cX3_holds 14 = .ok (.ireturn, 1) := by decide +kernel
theorem dX3_in_0 : decode cX3_in 0 = .ok (.iload_n 0, 1) := by decide +kernel
theorem dX3_in_1 : decode cX3_in 1 = .ok (.iload_n 1, 1) := by decide +kernel
theorem dX3_in_2 : decode cX3_in 2 = .ok (.if_icmp .lt 12, 3) := by decide +kernel
theorem dX3_in_5 : decode cX3_in 5 = .ok (.iload_n 0, 1) := by decide +kernel
theorem dX3_in_6 : decode cX3_in 6 = .ok (.iload_n 2, 1) := by decide +kernel
theorem dX3_in_7 : decode cX3_in 7 = .ok (.if_icmp .gt 7, 3) := by decide +kernel
theorem dX3_in_10 : decode cX3_in 10 = .ok (.iconst 1, 1) := by decide +kernel
theorem dX3_in_11 : decode cX3_in 11 = .ok (.goto 4, 3) := by decide +kernel
theorem dX3_in_14 : decode cX3_in 14 = .ok (.iconst 0, 1) := by decide +kernel
theorem dX3_in_15 : decode cX3_in 15 = .ok (.ireturn, 1) := by decide +kernel
theorem dX3_isKey_0 : decode cX3_isKey 0 = .ok (.iload_n 0, 1) := by decide +kernel
theorem dX3_isKey_1 : decode cX3_isKey 1 = .ok (.iconst 0, 1) := by decide +kernel
theorem dX3_isKey_2 : decode cX3_isKey 2 = .ok (.sipush 199, 3) := by decide +kernel
theorem dX3_isKey_5 : decode cX3_isKey 5 = .ok (.invokestatic 64, 3) := by decide +kernel
theorem dX3_isKey_8 : decode cX3_isKey 8 = .ok (.ireturn, 1) := by decide +kernel
theorem dX3_made_0 : decode cX3_made 0 = .ok (.iconst 0, 1) := by decide +kernel
theorem dX3_made_1 : decode cX3_made 1 = .ok (.istore 5, 2) := by decide +kernel
theorem dX3_made_3 : decode cX3_made 3 = .ok (.aload_n 0, 1) := by decide +kernel
theorem dX3_made_4 : decode cX3_made 4 = .ok (.getfield 7, 3) := by decide +kernel
theorem dX3_made_7 : decode cX3_made 7 = .ok (.iload 5, 2) := by decide +kernel
theorem dX3_made_9 : decode cX3_made 9 = .ok (.baload, 1) := by decide +kernel
theorem dX3_made_10 : decode cX3_made 10 = .ok (.ifCond .eq 9, 3) := by decide +kernel
theorem dX3_made_13 : decode cX3_made 13 = .ok (.iinc 5 1, 3) := by decide +kernel
theorem dX3_made_16 : decode cX3_made 16 = .ok (.goto (-13), 3) := by decide +kernel
theorem dX3_made_19 : decode cX3_made 19 = .ok (.aload_n 0, 1) := by decide +kernel
theorem dX3_made_20 : decode cX3_made 20 = .ok (.getfield 7, 3) := by decide +kernel
theorem dX3_made_23 : decode cX3_made 23 = .ok (.iload 5, 2) := by decide +kernel
theorem dX3_made_25 : decode cX3_made 25 = .ok (.iconst 1, 1) := by decide +kernel
theorem dX3_made_26 : decode cX3_made 26 = .ok (.bastore, 1) := by decide +kernel
theorem dX3_made_27 : decode cX3_made 27 = .ok (.aload_n 0, 1) := by decide +kernel
theorem dX3_made_28 : decode cX3_made 28 = .ok (.getfield 13, 3) := by decide +kernel
theorem dX3_made_31 : decode cX3_made 31 = .ok (.iload 5, 2) := by decide +kernel
theorem dX3_made_33 : decode cX3_made 33 = .ok (.iload_n 1, 1) := by decide +kernel
theorem dX3_made_34 : decode cX3_made 34 = .ok (.iastore, 1) := by decide +kernel
theorem dX3_made_35 : decode cX3_made 35 = .ok (.aload_n 0, 1) := by decide +kernel
theorem dX3_made_36 : decode cX3_made 36 = .ok (.getfield 17, 3) := by decide +kernel
theorem dX3_made_39 : decode cX3_made 39 = .ok (.iload 5, 2) := by decide +kernel
theorem dX3_made_41 : decode cX3_made 41 = .ok (.iload_n 2, 1) := by decide +kernel
theorem dX3_made_42 : decode cX3_made 42 = .ok (.iastore, 1) := by decide +kernel
theorem dX3_made_43 : decode cX3_made 43 = .ok (.aload_n 0, 1) := by decide +kernel
theorem dX3_made_44 : decode cX3_made 44 = .ok (.getfield 20, 3) := by decide +kernel
theorem dX3_made_47 : decode cX3_made 47 = .ok (.iload 5, 2) := by decide +kernel
theorem dX3_made_49 : decode cX3_made 49 = .ok (.iload_n 3, 1) := by decide +kernel
theorem dX3_made_50 : decode cX3_made 50 = .ok (.iastore, 1) := by decide +kernel
theorem dX3_made_51 : decode cX3_made 51 = .ok (.aload_n 0, 1) := by decide +kernel
theorem dX3_made_52 : decode cX3_made 52 = .ok (.getfield 23, 3) := by decide +kernel
theorem dX3_made_55 : decode cX3_made 55 = .ok (.iload 5, 2) := by decide +kernel
theorem dX3_made_57 : decode cX3_made 57 = .ok (.iload 4, 2) := by decide +kernel
theorem dX3_made_59 : decode cX3_made 59 = .ok (.iastore, 1) := by decide +kernel
theorem dX3_made_60 : decode cX3_made 60 = .ok (.aload_n 0, 1) := by decide +kernel
theorem dX3_made_61 : decode cX3_made 61 = .ok (.getfield 26, 3) := by decide +kernel
theorem dX3_made_64 : decode cX3_made 64 = .ok (.iload 5, 2) := by decide +kernel
theorem dX3_made_66 : decode cX3_made 66 = .ok (.iconst 0, 1) := by decide +kernel
theorem dX3_made_67 : decode cX3_made 67 = .ok (.iastore, 1) := by decide +kernel
theorem dX3_made_68 : decode cX3_made 68 = .ok (.aload_n 0, 1) := by decide +kernel
theorem dX3_made_69 : decode cX3_made 69 = .ok (.getfield 35, 3) := by decide +kernel
theorem dX3_made_72 : decode cX3_made 72 = .ok (.iload 5, 2) := by decide +kernel
theorem dX3_made_74 : decode cX3_made 74 = .ok (.iconst (-1), 1) := by decide +kernel
theorem dX3_made_75 : decode cX3_made 75 = .ok (.iastore, 1) := by decide +kernel
theorem dX3_made_76 : decode cX3_made 76 = .ok (.iload 5, 2) := by decide +kernel
theorem dX3_made_78 : decode cX3_made 78 = .ok (.ireturn, 1) := by decide +kernel
theorem dX3_place_0 : decode cX3_place 0 = .ok (.iconst (-1), 1) := by decide +kernel
theorem dX3_place_1 : decode cX3_place 1 = .ok (.istore_n 3, 1) := by decide +kernel
theorem dX3_place_2 : decode cX3_place 2 = .ok (.iconst 0, 1) := by decide +kernel
theorem dX3_place_3 : decode cX3_place 3 = .ok (.istore 4, 2) := by decide +kernel
theorem dX3_place_5 : decode cX3_place 5 = .ok (.iload 4, 2) := by decide +kernel
theorem dX3_place_7 : decode cX3_place 7 = .ok (.aload_n 0, 1) := by decide +kernel
theorem dX3_place_8 : decode cX3_place 8 = .ok (.getfield 26, 3) := by decide +kernel
theorem dX3_place_11 : decode cX3_place 11 = .ok (.iload_n 1, 1) := by decide +kernel
theorem dX3_place_12 : decode cX3_place 12 = .ok (.iaload, 1) := by decide +kernel
theorem dX3_place_13 : decode cX3_place 13 = .ok (.if_icmp .ge 31, 3) := by decide +kernel
theorem dX3_place_16 : decode cX3_place 16 = .ok (.aload_n 0, 1) := by decide +kernel
theorem dX3_place_17 : decode cX3_place 17 = .ok (.getfield 29, 3) := by decide +kernel
theorem dX3_place_20 : decode cX3_place 20 = .ok (.iconst 5, 1) := by decide +kernel
theorem dX3_place_21 : decode cX3_place 21 = .ok (.iload_n 1, 1) := by decide +kernel
theorem dX3_place_22 : decode cX3_place 22 = .ok (.imul, 1) := by decide +kernel
theorem dX3_place_23 : decode cX3_place 23 = .ok (.iload 4, 2) := by decide +kernel
theorem dX3_place_25 : decode cX3_place 25 = .ok (.iadd, 1) := by decide +kernel
theorem dX3_place_26 : decode cX3_place 26 = .ok (.iaload, 1) := by decide +kernel
theorem dX3_place_27 : decode cX3_place 27 = .ok (.iload_n 2, 1) := by decide +kernel
theorem dX3_place_28 : decode cX3_place 28 = .ok (.if_icmp .gt 8, 3) := by decide +kernel
theorem dX3_place_31 : decode cX3_place 31 = .ok (.iload 4, 2) := by decide +kernel
theorem dX3_place_33 : decode cX3_place 33 = .ok (.goto 4, 3) := by decide +kernel
theorem dX3_place_36 : decode cX3_place 36 = .ok (.iload_n 3, 1) := by decide +kernel
theorem dX3_place_37 : decode cX3_place 37 = .ok (.istore_n 3, 1) := by decide +kernel
theorem dX3_place_38 : decode cX3_place 38 = .ok (.iinc 4 1, 3) := by decide +kernel
theorem dX3_place_41 : decode cX3_place 41 = .ok (.goto (-36), 3) := by decide +kernel
theorem dX3_place_44 : decode cX3_place 44 = .ok (.iload_n 3, 1) := by decide +kernel
theorem dX3_place_45 : decode cX3_place 45 = .ok (.ireturn, 1) := by decide +kernel
theorem dX3_down_0 : decode cX3_down 0 = .ok (.aload_n 0, 1) := by decide +kernel
theorem dX3_down_1 : decode cX3_down 1 = .ok (.getfield 57, 3) := by decide +kernel
theorem dX3_down_4 : decode cX3_down 4 = .ok (.istore_n 3, 1) := by decide +kernel
theorem dX3_down_5 : decode cX3_down 5 = .ok (.aload_n 0, 1) := by decide +kernel
theorem dX3_down_6 : decode cX3_down 6 = .ok (.iconst 0, 1) := by decide +kernel
theorem dX3_down_7 : decode cX3_down 7 = .ok (.putfield 68, 3) := by decide +kernel
theorem dX3_down_10 : decode cX3_down 10 = .ok (.aload_n 0, 1) := by decide +kernel
theorem dX3_down_11 : decode cX3_down 11 = .ok (.getfield 13, 3) := by decide +kernel
theorem dX3_down_14 : decode cX3_down 14 = .ok (.iload_n 3, 1) := by decide +kernel
theorem dX3_down_15 : decode cX3_down 15 = .ok (.iaload, 1) := by decide +kernel
theorem dX3_down_16 : decode cX3_down 16 = .ok (.iload_n 2, 1) := by decide +kernel
theorem dX3_down_17 : decode cX3_down 17 = .ok (.if_icmp .gt 13, 3) := by decide +kernel
theorem dX3_down_20 : decode cX3_down 20 = .ok (.iload_n 1, 1) := by decide +kernel
theorem dX3_down_21 : decode cX3_down 21 = .ok (.aload_n 0, 1) := by decide +kernel
theorem dX3_down_22 : decode cX3_down 22 = .ok (.getfield 20, 3) := by decide +kernel
theorem dX3_down_25 : decode cX3_down 25 = .ok (.iload_n 3, 1) := by decide +kernel
theorem dX3_down_26 : decode cX3_down 26 = .ok (.iaload, 1) := by decide +kernel
theorem dX3_down_27 : decode cX3_down 27 = .ok (.if_icmp .lt 72, 3) := by decide +kernel
theorem dX3_down_30 : decode cX3_down 30 = .ok (.iload_n 1, 1) := by decide +kernel
theorem dX3_down_31 : decode cX3_down 31 = .ok (.aload_n 0, 1) := by decide +kernel
theorem dX3_down_32 : decode cX3_down 32 = .ok (.getfield 20, 3) := by decide +kernel
theorem dX3_down_35 : decode cX3_down 35 = .ok (.iload_n 3, 1) := by decide +kernel
theorem dX3_down_36 : decode cX3_down 36 = .ok (.iaload, 1) := by decide +kernel
theorem dX3_down_37 : decode cX3_down 37 = .ok (.if_icmp .lt 7, 3) := by decide +kernel
theorem dX3_down_40 : decode cX3_down 40 = .ok (.iconst 1, 1) := by decide +kernel
theorem dX3_down_41 : decode cX3_down 41 = .ok (.goto 4, 3) := by decide +kernel
theorem dX3_down_44 : decode cX3_down 44 = .ok (.iconst 0, 1) := by decide +kernel
theorem dX3_down_45 : decode cX3_down 45 = .ok (.istore 4, 2) := by decide +kernel
theorem dX3_down_47 : decode cX3_down 47 = .ok (.aload_n 0, 1) := by decide +kernel
theorem dX3_down_48 : decode cX3_down 48 = .ok (.dup, 1) := by decide +kernel
theorem dX3_down_49 : decode cX3_down 49 = .ok (.getfield 68, 3) := by decide +kernel
theorem dX3_down_52 : decode cX3_down 52 = .ok (.iload 4, 2) := by decide +kernel
theorem dX3_down_54 : decode cX3_down 54 = .ok (.ifCond .eq 7, 3) := by decide +kernel
theorem dX3_down_57 : decode cX3_down 57 = .ok (.iconst 1, 1) := by decide +kernel
theorem dX3_down_58 : decode cX3_down 58 = .ok (.goto 4, 3) := by decide +kernel
theorem dX3_down_61 : decode cX3_down 61 = .ok (.iconst 0, 1) := by decide +kernel
theorem dX3_down_62 : decode cX3_down 62 = .ok (.iadd, 1) := by decide +kernel
theorem dX3_down_63 : decode cX3_down 63 = .ok (.putfield 68, 3) := by decide +kernel
theorem dX3_down_66 : decode cX3_down 66 = .ok (.iload 4, 2) := by decide +kernel
theorem dX3_down_68 : decode cX3_down 68 = .ok (.ifCond .eq 12, 3) := by decide +kernel
theorem dX3_down_71 : decode cX3_down 71 = .ok (.aload_n 0, 1) := by decide +kernel
theorem dX3_down_72 : decode cX3_down 72 = .ok (.getfield 23, 3) := by decide +kernel
theorem dX3_down_75 : decode cX3_down 75 = .ok (.iload_n 3, 1) := by decide +kernel
theorem dX3_down_76 : decode cX3_down 76 = .ok (.iaload, 1) := by decide +kernel
theorem dX3_down_77 : decode cX3_down 77 = .ok (.goto 18, 3) := by decide +kernel
theorem dX3_down_80 : decode cX3_down 80 = .ok (.aload_n 0, 1) := by decide +kernel
theorem dX3_down_81 : decode cX3_down 81 = .ok (.getfield 32, 3) := by decide +kernel
theorem dX3_down_84 : decode cX3_down 84 = .ok (.iconst 5, 1) := by decide +kernel
theorem dX3_down_85 : decode cX3_down 85 = .ok (.iload_n 3, 1) := by decide +kernel
theorem dX3_down_86 : decode cX3_down 86 = .ok (.imul, 1) := by decide +kernel
theorem dX3_down_87 : decode cX3_down 87 = .ok (.aload_n 0, 1) := by decide +kernel
theorem dX3_down_88 : decode cX3_down 88 = .ok (.iload_n 3, 1) := by decide +kernel
theorem dX3_down_89 : decode cX3_down 89 = .ok (.iload_n 1, 1) := by decide +kernel
theorem dX3_down_90 : decode cX3_down 90 = .ok (.invokevirtual 71, 3) := by decide +kernel
theorem dX3_down_93 : decode cX3_down 93 = .ok (.iadd, 1) := by decide +kernel
theorem dX3_down_94 : decode cX3_down 94 = .ok (.iaload, 1) := by decide +kernel
theorem dX3_down_95 : decode cX3_down 95 = .ok (.istore_n 3, 1) := by decide +kernel
theorem dX3_down_96 : decode cX3_down 96 = .ok (.goto (-86), 3) := by decide +kernel
theorem dX3_down_99 : decode cX3_down 99 = .ok (.iload_n 3, 1) := by decide +kernel
theorem dX3_down_100 : decode cX3_down 100 = .ok (.ireturn, 1) := by decide +kernel
theorem dX3_hasKey_0 : decode cX3_hasKey 0 = .ok (.iload_n 2, 1) := by decide +kernel
theorem dX3_hasKey_1 : decode cX3_hasKey 1 = .ok (.iconst (-1), 1) := by decide +kernel
theorem dX3_hasKey_2 : decode cX3_hasKey 2 = .ok (.if_icmp .eq 21, 3) := by decide +kernel
theorem dX3_hasKey_5 : decode cX3_hasKey 5 = .ok (.aload_n 0, 1) := by decide +kernel
theorem dX3_hasKey_6 : decode cX3_hasKey 6 = .ok (.getfield 29, 3) := by decide +kernel
theorem dX3_hasKey_9 : decode cX3_hasKey 9 = .ok (.iconst 5, 1) := by decide +kernel
theorem dX3_hasKey_10 : decode cX3_hasKey 10 = .ok (.iload_n 1, 1) := by decide +kernel
theorem dX3_hasKey_11 : decode cX3_hasKey 11 = .ok (.imul, 1) := by decide +kernel
theorem dX3_hasKey_12 : decode cX3_hasKey 12 = .ok (.iload_n 2, 1) := by decide +kernel
theorem dX3_hasKey_13 : decode cX3_hasKey 13 = .ok (.iadd, 1) := by decide +kernel
theorem dX3_hasKey_14 : decode cX3_hasKey 14 = .ok (.iaload, 1) := by decide +kernel
theorem dX3_hasKey_15 : decode cX3_hasKey 15 = .ok (.iload_n 3, 1) := by decide +kernel
theorem dX3_hasKey_16 : decode cX3_hasKey 16 = .ok (.if_icmp .ne 7, 3) := by decide +kernel
theorem dX3_hasKey_19 : decode cX3_hasKey 19 = .ok (.iconst 1, 1) := by decide +kernel
theorem dX3_hasKey_20 : decode cX3_hasKey 20 = .ok (.goto 4, 3) := by decide +kernel
theorem dX3_hasKey_23 : decode cX3_hasKey 23 = .ok (.iconst 0, 1) := by decide +kernel
theorem dX3_hasKey_24 : decode cX3_hasKey 24 = .ok (.ireturn, 1) := by decide +kernel
theorem dX3_sets_0 : decode cX3_sets 0 = .ok (.aload_n 0, 1) := by decide +kernel
theorem dX3_sets_1 : decode cX3_sets 1 = .ok (.getfield 29, 3) := by decide +kernel
theorem dX3_sets_4 : decode cX3_sets 4 = .ok (.iconst 5, 1) := by decide +kernel
theorem dX3_sets_5 : decode cX3_sets 5 = .ok (.iload_n 1, 1) := by decide +kernel
theorem dX3_sets_6 : decode cX3_sets 6 = .ok (.imul, 1) := by decide +kernel
theorem dX3_sets_7 : decode cX3_sets 7 = .ok (.iload_n 2, 1) := by decide +kernel
theorem dX3_sets_8 : decode cX3_sets 8 = .ok (.iadd, 1) := by decide +kernel
theorem dX3_sets_9 : decode cX3_sets 9 = .ok (.iload_n 3, 1) := by decide +kernel
theorem dX3_sets_10 : decode cX3_sets 10 = .ok (.iastore, 1) := by decide +kernel
theorem dX3_sets_11 : decode cX3_sets 11 = .ok (.aload_n 0, 1) := by decide +kernel
theorem dX3_sets_12 : decode cX3_sets 12 = .ok (.getfield 32, 3) := by decide +kernel
theorem dX3_sets_15 : decode cX3_sets 15 = .ok (.iconst 5, 1) := by decide +kernel
theorem dX3_sets_16 : decode cX3_sets 16 = .ok (.iload_n 1, 1) := by decide +kernel
theorem dX3_sets_17 : decode cX3_sets 17 = .ok (.imul, 1) := by decide +kernel
theorem dX3_sets_18 : decode cX3_sets 18 = .ok (.iload_n 2, 1) := by decide +kernel
theorem dX3_sets_19 : decode cX3_sets 19 = .ok (.iadd, 1) := by decide +kernel
theorem dX3_sets_20 : decode cX3_sets 20 = .ok (.iload 4, 2) := by decide +kernel
theorem dX3_sets_22 : decode cX3_sets 22 = .ok (.iastore, 1) := by decide +kernel
theorem dX3_sets_23 : decode cX3_sets 23 = .ok (.return_, 1) := by decide +kernel
theorem dX3_adds_0 : decode cX3_adds 0 = .ok (.aload_n 0, 1) := by decide +kernel
theorem dX3_adds_1 : decode cX3_adds 1 = .ok (.iload_n 1, 1) := by decide +kernel
theorem dX3_adds_2 : decode cX3_adds 2 = .ok (.iload_n 2, 1) := by decide +kernel
theorem dX3_adds_3 : decode cX3_adds 3 = .ok (.invokevirtual 71, 3) := by decide +kernel
theorem dX3_adds_6 : decode cX3_adds 6 = .ok (.iconst 1, 1) := by decide +kernel
theorem dX3_adds_7 : decode cX3_adds 7 = .ok (.iadd, 1) := by decide +kernel
theorem dX3_adds_8 : decode cX3_adds 8 = .ok (.istore 4, 2) := by decide +kernel
theorem dX3_adds_10 : decode cX3_adds 10 = .ok (.aload_n 0, 1) := by decide +kernel
theorem dX3_adds_11 : decode cX3_adds 11 = .ok (.getfield 26, 3) := by decide +kernel
theorem dX3_adds_14 : decode cX3_adds 14 = .ok (.iload_n 1, 1) := by decide +kernel
theorem dX3_adds_15 : decode cX3_adds 15 = .ok (.iaload, 1) := by decide +kernel
theorem dX3_adds_16 : decode cX3_adds 16 = .ok (.istore 5, 2) := by decide +kernel
theorem dX3_adds_18 : decode cX3_adds 18 = .ok (.iload 5, 2) := by decide +kernel
theorem dX3_adds_20 : decode cX3_adds 20 = .ok (.iload 4, 2) := by decide +kernel
theorem dX3_adds_22 : decode cX3_adds 22 = .ok (.if_icmp .le 42, 3) := by decide +kernel
theorem dX3_adds_25 : decode cX3_adds 25 = .ok (.aload_n 0, 1) := by decide +kernel
theorem dX3_adds_26 : decode cX3_adds 26 = .ok (.iload_n 1, 1) := by decide +kernel
theorem dX3_adds_27 : decode cX3_adds 27 = .ok (.iload 5, 2) := by decide +kernel
theorem dX3_adds_29 : decode cX3_adds 29 = .ok (.aload_n 0, 1) := by decide +kernel
theorem dX3_adds_30 : decode cX3_adds 30 = .ok (.getfield 29, 3) := by decide +kernel
theorem dX3_adds_33 : decode cX3_adds 33 = .ok (.iconst 5, 1) := by decide +kernel
theorem dX3_adds_34 : decode cX3_adds 34 = .ok (.iload_n 1, 1) := by decide +kernel
theorem dX3_adds_35 : decode cX3_adds 35 = .ok (.imul, 1) := by decide +kernel
theorem dX3_adds_36 : decode cX3_adds 36 = .ok (.iload 5, 2) := by decide +kernel
theorem dX3_adds_38 : decode cX3_adds 38 = .ok (.iadd, 1) := by decide +kernel
theorem dX3_adds_39 : decode cX3_adds 39 = .ok (.iconst 1, 1) := by decide +kernel
theorem dX3_adds_40 : decode cX3_adds 40 = .ok (.isub, 1) := by decide +kernel
theorem dX3_adds_41 : decode cX3_adds 41 = .ok (.iaload, 1) := by decide +kernel
theorem dX3_adds_42 : decode cX3_adds 42 = .ok (.aload_n 0, 1) := by decide +kernel
theorem dX3_adds_43 : decode cX3_adds 43 = .ok (.getfield 32, 3) := by decide +kernel
theorem dX3_adds_46 : decode cX3_adds 46 = .ok (.iconst 5, 1) := by decide +kernel
theorem dX3_adds_47 : decode cX3_adds 47 = .ok (.iload_n 1, 1) := by decide +kernel
theorem dX3_adds_48 : decode cX3_adds 48 = .ok (.imul, 1) := by decide +kernel
theorem dX3_adds_49 : decode cX3_adds 49 = .ok (.iload 5, 2) := by decide +kernel
theorem dX3_adds_51 : decode cX3_adds 51 = .ok (.iadd, 1) := by decide +kernel
theorem dX3_adds_52 : decode cX3_adds 52 = .ok (.iconst 1, 1) := by decide +kernel
theorem dX3_adds_53 : decode cX3_adds 53 = .ok (.isub, 1) := by decide +kernel
theorem dX3_adds_54 : decode cX3_adds 54 = .ok (.iaload, 1) := by decide +kernel
theorem dX3_adds_55 : decode cX3_adds 55 = .ok (.invokevirtual 75, 3) := by decide +kernel
theorem dX3_adds_58 : decode cX3_adds 58 = .ok (.iinc 5 (-1), 3) := by decide +kernel
theorem dX3_adds_61 : decode cX3_adds 61 = .ok (.goto (-43), 3) := by decide +kernel
theorem dX3_adds_64 : decode cX3_adds 64 = .ok (.aload_n 0, 1) := by decide +kernel
theorem dX3_adds_65 : decode cX3_adds 65 = .ok (.iload_n 1, 1) := by decide +kernel
theorem dX3_adds_66 : decode cX3_adds 66 = .ok (.iload 4, 2) := by decide +kernel
theorem dX3_adds_68 : decode cX3_adds 68 = .ok (.iload_n 2, 1) := by decide +kernel
theorem dX3_adds_69 : decode cX3_adds 69 = .ok (.iload_n 3, 1) := by decide +kernel
theorem dX3_adds_70 : decode cX3_adds 70 = .ok (.invokevirtual 75, 3) := by decide +kernel
theorem dX3_adds_73 : decode cX3_adds 73 = .ok (.aload_n 0, 1) := by decide +kernel
theorem dX3_adds_74 : decode cX3_adds 74 = .ok (.getfield 26, 3) := by decide +kernel
theorem dX3_adds_77 : decode cX3_adds 77 = .ok (.iload_n 1, 1) := by decide +kernel
theorem dX3_adds_78 : decode cX3_adds 78 = .ok (.dup2, 1) := by decide +kernel
theorem dX3_adds_79 : decode cX3_adds 79 = .ok (.iaload, 1) := by decide +kernel
theorem dX3_adds_80 : decode cX3_adds 80 = .ok (.iconst 1, 1) := by decide +kernel
theorem dX3_adds_81 : decode cX3_adds 81 = .ok (.iadd, 1) := by decide +kernel
theorem dX3_adds_82 : decode cX3_adds 82 = .ok (.iastore, 1) := by decide +kernel
theorem dX3_adds_83 : decode cX3_adds 83 = .ok (.aload_n 0, 1) := by decide +kernel
theorem dX3_adds_84 : decode cX3_adds 84 = .ok (.getfield 26, 3) := by decide +kernel
theorem dX3_adds_87 : decode cX3_adds 87 = .ok (.iload_n 1, 1) := by decide +kernel
theorem dX3_adds_88 : decode cX3_adds 88 = .ok (.iaload, 1) := by decide +kernel
theorem dX3_adds_89 : decode cX3_adds 89 = .ok (.iconst 5, 1) := by decide +kernel
theorem dX3_adds_90 : decode cX3_adds 90 = .ok (.if_icmp .ne 8, 3) := by decide +kernel
theorem dX3_adds_93 : decode cX3_adds 93 = .ok (.aload_n 0, 1) := by decide +kernel
theorem dX3_adds_94 : decode cX3_adds 94 = .ok (.iload_n 1, 1) := by decide +kernel
theorem dX3_adds_95 : decode cX3_adds 95 = .ok (.invokevirtual 79, 3) := by decide +kernel
theorem dX3_adds_98 : decode cX3_adds 98 = .ok (.return_, 1) := by decide +kernel
theorem dX3_splits_0 : decode cX3_splits 0 = .ok (.aload_n 0, 1) := by decide +kernel
theorem dX3_splits_1 : decode cX3_splits 1 = .ok (.aload_n 0, 1) := by decide +kernel
theorem dX3_splits_2 : decode cX3_splits 2 = .ok (.getfield 13, 3) := by decide +kernel
theorem dX3_splits_5 : decode cX3_splits 5 = .ok (.iload_n 1, 1) := by decide +kernel
theorem dX3_splits_6 : decode cX3_splits 6 = .ok (.iaload, 1) := by decide +kernel
theorem dX3_splits_7 : decode cX3_splits 7 = .ok (.aload_n 0, 1) := by decide +kernel
theorem dX3_splits_8 : decode cX3_splits 8 = .ok (.getfield 29, 3) := by decide +kernel
theorem dX3_splits_11 : decode cX3_splits 11 = .ok (.iconst 5, 1) := by decide +kernel
theorem dX3_splits_12 : decode cX3_splits 12 = .ok (.iload_n 1, 1) := by decide +kernel
theorem dX3_splits_13 : decode cX3_splits 13 = .ok (.imul, 1) := by decide +kernel
theorem dX3_splits_14 : decode cX3_splits 14 = .ok (.iconst 3, 1) := by decide +kernel
theorem dX3_splits_15 : decode cX3_splits 15 = .ok (.iadd, 1) := by decide +kernel
theorem dX3_splits_16 : decode cX3_splits 16 = .ok (.iaload, 1) := by decide +kernel
theorem dX3_splits_17 : decode cX3_splits 17 = .ok (.aload_n 0, 1) := by decide +kernel
theorem dX3_splits_18 : decode cX3_splits 18 = .ok (.getfield 20, 3) := by decide +kernel
theorem dX3_splits_21 : decode cX3_splits 21 = .ok (.iload_n 1, 1) := by decide +kernel
theorem dX3_splits_22 : decode cX3_splits 22 = .ok (.iaload, 1) := by decide +kernel
theorem dX3_splits_23 : decode cX3_splits 23 = .ok (.aload_n 0, 1) := by decide +kernel
theorem dX3_splits_24 : decode cX3_splits 24 = .ok (.getfield 23, 3) := by decide +kernel
theorem dX3_splits_27 : decode cX3_splits 27 = .ok (.iload_n 1, 1) := by decide +kernel
theorem dX3_splits_28 : decode cX3_splits 28 = .ok (.iaload, 1) := by decide +kernel
theorem dX3_splits_29 : decode cX3_splits 29 = .ok (.invokevirtual 53, 3) := by decide +kernel
theorem dX3_splits_32 : decode cX3_splits 32 = .ok (.istore_n 2, 1) := by decide +kernel
theorem dX3_splits_33 : decode cX3_splits 33 = .ok (.aload_n 0, 1) := by decide +kernel
theorem dX3_splits_34 : decode cX3_splits 34 = .ok (.iload_n 2, 1) := by decide +kernel
theorem dX3_splits_35 : decode cX3_splits 35 = .ok (.iconst 0, 1) := by decide +kernel
theorem dX3_splits_36 : decode cX3_splits 36 = .ok (.aload_n 0, 1) := by decide +kernel
theorem dX3_splits_37 : decode cX3_splits 37 = .ok (.getfield 29, 3) := by decide +kernel
theorem dX3_splits_40 : decode cX3_splits 40 = .ok (.iconst 5, 1) := by decide +kernel
theorem dX3_splits_41 : decode cX3_splits 41 = .ok (.iload_n 1, 1) := by decide +kernel
theorem dX3_splits_42 : decode cX3_splits 42 = .ok (.imul, 1) := by decide +kernel
theorem dX3_splits_43 : decode cX3_splits 43 = .ok (.iconst 3, 1) := by decide +kernel
theorem dX3_splits_44 : decode cX3_splits 44 = .ok (.iadd, 1) := by decide +kernel
theorem dX3_splits_45 : decode cX3_splits 45 = .ok (.iaload, 1) := by decide +kernel
theorem dX3_splits_46 : decode cX3_splits 46 = .ok (.aload_n 0, 1) := by decide +kernel
theorem dX3_splits_47 : decode cX3_splits 47 = .ok (.getfield 32, 3) := by decide +kernel
theorem dX3_splits_50 : decode cX3_splits 50 = .ok (.iconst 5, 1) := by decide +kernel
theorem dX3_splits_51 : decode cX3_splits 51 = .ok (.iload_n 1, 1) := by decide +kernel
theorem dX3_splits_52 : decode cX3_splits 52 = .ok (.imul, 1) := by decide +kernel
theorem dX3_splits_53 : decode cX3_splits 53 = .ok (.iconst 3, 1) := by decide +kernel
theorem dX3_splits_54 : decode cX3_splits 54 = .ok (.iadd, 1) := by decide +kernel
theorem dX3_splits_55 : decode cX3_splits 55 = .ok (.iaload, 1) := by decide +kernel
theorem dX3_splits_56 : decode cX3_splits 56 = .ok (.invokevirtual 75, 3) := by decide +kernel
theorem dX3_splits_59 : decode cX3_splits 59 = .ok (.aload_n 0, 1) := by decide +kernel
theorem dX3_splits_60 : decode cX3_splits 60 = .ok (.iload_n 2, 1) := by decide +kernel
theorem dX3_splits_61 : decode cX3_splits 61 = .ok (.iconst 1, 1) := by decide +kernel
theorem dX3_splits_62 : decode cX3_splits 62 = .ok (.aload_n 0, 1) := by decide +kernel
theorem dX3_splits_63 : decode cX3_splits 63 = .ok (.getfield 29, 3) := by decide +kernel
theorem dX3_splits_66 : decode cX3_splits 66 = .ok (.iconst 5, 1) := by decide +kernel
theorem dX3_splits_67 : decode cX3_splits 67 = .ok (.iload_n 1, 1) := by decide +kernel
theorem dX3_splits_68 : decode cX3_splits 68 = .ok (.imul, 1) := by decide +kernel
theorem dX3_splits_69 : decode cX3_splits 69 = .ok (.iconst 4, 1) := by decide +kernel
theorem dX3_splits_70 : decode cX3_splits 70 = .ok (.iadd, 1) := by decide +kernel
theorem dX3_splits_71 : decode cX3_splits 71 = .ok (.iaload, 1) := by decide +kernel
theorem dX3_splits_72 : decode cX3_splits 72 = .ok (.aload_n 0, 1) := by decide +kernel
theorem dX3_splits_73 : decode cX3_splits 73 = .ok (.getfield 32, 3) := by decide +kernel
theorem dX3_splits_76 : decode cX3_splits 76 = .ok (.iconst 5, 1) := by decide +kernel
theorem dX3_splits_77 : decode cX3_splits 77 = .ok (.iload_n 1, 1) := by decide +kernel
theorem dX3_splits_78 : decode cX3_splits 78 = .ok (.imul, 1) := by decide +kernel
theorem dX3_splits_79 : decode cX3_splits 79 = .ok (.iconst 4, 1) := by decide +kernel
theorem dX3_splits_80 : decode cX3_splits 80 = .ok (.iadd, 1) := by decide +kernel
theorem dX3_splits_81 : decode cX3_splits 81 = .ok (.iaload, 1) := by decide +kernel
theorem dX3_splits_82 : decode cX3_splits 82 = .ok (.invokevirtual 75, 3) := by decide +kernel
theorem dX3_splits_85 : decode cX3_splits 85 = .ok (.aload_n 0, 1) := by decide +kernel
theorem dX3_splits_86 : decode cX3_splits 86 = .ok (.getfield 26, 3) := by decide +kernel
theorem dX3_splits_89 : decode cX3_splits 89 = .ok (.iload_n 2, 1) := by decide +kernel
theorem dX3_splits_90 : decode cX3_splits 90 = .ok (.iconst 2, 1) := by decide +kernel
theorem dX3_splits_91 : decode cX3_splits 91 = .ok (.iastore, 1) := by decide +kernel
theorem dX3_splits_92 : decode cX3_splits 92 = .ok (.aload_n 0, 1) := by decide +kernel
theorem dX3_splits_93 : decode cX3_splits 93 = .ok (.getfield 26, 3) := by decide +kernel
theorem dX3_splits_96 : decode cX3_splits 96 = .ok (.iload_n 1, 1) := by decide +kernel
theorem dX3_splits_97 : decode cX3_splits 97 = .ok (.iconst 3, 1) := by decide +kernel
theorem dX3_splits_98 : decode cX3_splits 98 = .ok (.iastore, 1) := by decide +kernel
theorem dX3_splits_99 : decode cX3_splits 99 = .ok (.aload_n 0, 1) := by decide +kernel
theorem dX3_splits_100 : decode cX3_splits 100 = .ok (.getfield 20, 3) := by decide +kernel
theorem dX3_splits_103 : decode cX3_splits 103 = .ok (.iload_n 1, 1) := by decide +kernel
theorem dX3_splits_104 : decode cX3_splits 104 = .ok (.aload_n 0, 1) := by decide +kernel
theorem dX3_splits_105 : decode cX3_splits 105 = .ok (.getfield 17, 3) := by decide +kernel
theorem dX3_splits_108 : decode cX3_splits 108 = .ok (.iload_n 2, 1) := by decide +kernel
theorem dX3_splits_109 : decode cX3_splits 109 = .ok (.iaload, 1) := by decide +kernel
theorem dX3_splits_110 : decode cX3_splits 110 = .ok (.iastore, 1) := by decide +kernel
theorem dX3_splits_111 : decode cX3_splits 111 = .ok (.aload_n 0, 1) := by decide +kernel
theorem dX3_splits_112 : decode cX3_splits 112 = .ok (.getfield 23, 3) := by decide +kernel
theorem dX3_splits_115 : decode cX3_splits 115 = .ok (.iload_n 1, 1) := by decide +kernel
theorem dX3_splits_116 : decode cX3_splits 116 = .ok (.iload_n 2, 1) := by decide +kernel
theorem dX3_splits_117 : decode cX3_splits 117 = .ok (.iastore, 1) := by decide +kernel
theorem dX3_splits_118 : decode cX3_splits 118 = .ok (.aload_n 0, 1) := by decide +kernel
theorem dX3_splits_119 : decode cX3_splits 119 = .ok (.getfield 38, 3) := by decide +kernel
theorem dX3_splits_122 : decode cX3_splits 122 = .ok (.aload_n 0, 1) := by decide +kernel
theorem dX3_splits_123 : decode cX3_splits 123 = .ok (.getfield 83, 3) := by decide +kernel
theorem dX3_splits_126 : decode cX3_splits 126 = .ok (.iload_n 2, 1) := by decide +kernel
theorem dX3_splits_127 : decode cX3_splits 127 = .ok (.iastore, 1) := by decide +kernel
theorem dX3_splits_128 : decode cX3_splits 128 = .ok (.aload_n 0, 1) := by decide +kernel
theorem dX3_splits_129 : decode cX3_splits 129 = .ok (.dup, 1) := by decide +kernel
theorem dX3_splits_130 : decode cX3_splits 130 = .ok (.getfield 83, 3) := by decide +kernel
theorem dX3_splits_133 : decode cX3_splits 133 = .ok (.iconst 1, 1) := by decide +kernel
theorem dX3_splits_134 : decode cX3_splits 134 = .ok (.iadd, 1) := by decide +kernel
theorem dX3_splits_135 : decode cX3_splits 135 = .ok (.putfield 83, 3) := by decide +kernel
theorem dX3_splits_138 : decode cX3_splits 138 = .ok (.return_, 1) := by decide +kernel
theorem dX3_posts_0 : decode cX3_posts 0 = .ok (.aload_n 0, 1) := by decide +kernel
theorem dX3_posts_1 : decode cX3_posts 1 = .ok (.getfield 38, 3) := by decide +kernel
theorem dX3_posts_4 : decode cX3_posts 4 = .ok (.iconst 0, 1) := by decide +kernel
theorem dX3_posts_5 : decode cX3_posts 5 = .ok (.iaload, 1) := by decide +kernel
theorem dX3_posts_6 : decode cX3_posts 6 = .ok (.istore_n 1, 1) := by decide +kernel
theorem dX3_posts_7 : decode cX3_posts 7 = .ok (.aload_n 0, 1) := by decide +kernel
theorem dX3_posts_8 : decode cX3_posts 8 = .ok (.dup, 1) := by decide +kernel
theorem dX3_posts_9 : decode cX3_posts 9 = .ok (.getfield 83, 3) := by decide +kernel
theorem dX3_posts_12 : decode cX3_posts 12 = .ok (.iconst 1, 1) := by decide +kernel
theorem dX3_posts_13 : decode cX3_posts 13 = .ok (.isub, 1) := by decide +kernel
theorem dX3_posts_14 : decode cX3_posts 14 = .ok (.putfield 83, 3) := by decide +kernel
theorem dX3_posts_17 : decode cX3_posts 17 = .ok (.iconst 0, 1) := by decide +kernel
theorem dX3_posts_18 : decode cX3_posts 18 = .ok (.istore_n 2, 1) := by decide +kernel
theorem dX3_posts_19 : decode cX3_posts 19 = .ok (.iload_n 2, 1) := by decide +kernel
theorem dX3_posts_20 : decode cX3_posts 20 = .ok (.aload_n 0, 1) := by decide +kernel
theorem dX3_posts_21 : decode cX3_posts 21 = .ok (.getfield 83, 3) := by decide +kernel
theorem dX3_posts_24 : decode cX3_posts 24 = .ok (.if_icmp .ge 23, 3) := by decide +kernel
theorem dX3_posts_27 : decode cX3_posts 27 = .ok (.aload_n 0, 1) := by decide +kernel
theorem dX3_posts_28 : decode cX3_posts 28 = .ok (.getfield 38, 3) := by decide +kernel
theorem dX3_posts_31 : decode cX3_posts 31 = .ok (.iload_n 2, 1) := by decide +kernel
theorem dX3_posts_32 : decode cX3_posts 32 = .ok (.aload_n 0, 1) := by decide +kernel
theorem dX3_posts_33 : decode cX3_posts 33 = .ok (.getfield 38, 3) := by decide +kernel
theorem dX3_posts_36 : decode cX3_posts 36 = .ok (.iload_n 2, 1) := by decide +kernel
theorem dX3_posts_37 : decode cX3_posts 37 = .ok (.iconst 1, 1) := by decide +kernel
theorem dX3_posts_38 : decode cX3_posts 38 = .ok (.iadd, 1) := by decide +kernel
theorem dX3_posts_39 : decode cX3_posts 39 = .ok (.iaload, 1) := by decide +kernel
theorem dX3_posts_40 : decode cX3_posts 40 = .ok (.iastore, 1) := by decide +kernel
theorem dX3_posts_41 : decode cX3_posts 41 = .ok (.iinc 2 1, 3) := by decide +kernel
theorem dX3_posts_44 : decode cX3_posts 44 = .ok (.goto (-25), 3) := by decide +kernel
theorem dX3_posts_47 : decode cX3_posts 47 = .ok (.aload_n 0, 1) := by decide +kernel
theorem dX3_posts_48 : decode cX3_posts 48 = .ok (.getfield 13, 3) := by decide +kernel
theorem dX3_posts_51 : decode cX3_posts 51 = .ok (.iload_n 1, 1) := by decide +kernel
theorem dX3_posts_52 : decode cX3_posts 52 = .ok (.iaload, 1) := by decide +kernel
theorem dX3_posts_53 : decode cX3_posts 53 = .ok (.aload_n 0, 1) := by decide +kernel
theorem dX3_posts_54 : decode cX3_posts 54 = .ok (.getfield 13, 3) := by decide +kernel
theorem dX3_posts_57 : decode cX3_posts 57 = .ok (.aload_n 0, 1) := by decide +kernel
theorem dX3_posts_58 : decode cX3_posts 58 = .ok (.getfield 57, 3) := by decide +kernel
theorem dX3_posts_61 : decode cX3_posts 61 = .ok (.iaload, 1) := by decide +kernel
theorem dX3_posts_62 : decode cX3_posts 62 = .ok (.if_icmp .ne 60, 3) := by decide +kernel
theorem dX3_posts_65 : decode cX3_posts 65 = .ok (.aload_n 0, 1) := by decide +kernel
theorem dX3_posts_66 : decode cX3_posts 66 = .ok (.aload_n 0, 1) := by decide +kernel
theorem dX3_posts_67 : decode cX3_posts 67 = .ok (.getfield 13, 3) := by decide +kernel
theorem dX3_posts_70 : decode cX3_posts 70 = .ok (.iload_n 1, 1) := by decide +kernel
theorem dX3_posts_71 : decode cX3_posts 71 = .ok (.iaload, 1) := by decide +kernel
theorem dX3_posts_72 : decode cX3_posts 72 = .ok (.iconst 1, 1) := by decide +kernel
theorem dX3_posts_73 : decode cX3_posts 73 = .ok (.iadd, 1) := by decide +kernel
theorem dX3_posts_74 : decode cX3_posts 74 = .ok (.iconst 0, 1) := by decide +kernel
theorem dX3_posts_75 : decode cX3_posts 75 = .ok (.sipush 200, 3) := by decide +kernel
theorem dX3_posts_78 : decode cX3_posts 78 = .ok (.iconst (-1), 1) := by decide +kernel
theorem dX3_posts_79 : decode cX3_posts 79 = .ok (.invokevirtual 53, 3) := by decide +kernel
theorem dX3_posts_82 : decode cX3_posts 82 = .ok (.istore_n 2, 1) := by decide +kernel
theorem dX3_posts_83 : decode cX3_posts 83 = .ok (.aload_n 0, 1) := by decide +kernel
theorem dX3_posts_84 : decode cX3_posts 84 = .ok (.iload_n 2, 1) := by decide +kernel
theorem dX3_posts_85 : decode cX3_posts 85 = .ok (.iconst 0, 1) := by decide +kernel
theorem dX3_posts_86 : decode cX3_posts 86 = .ok (.iconst 0, 1) := by decide +kernel
theorem dX3_posts_87 : decode cX3_posts 87 = .ok (.aload_n 0, 1) := by decide +kernel
theorem dX3_posts_88 : decode cX3_posts 88 = .ok (.getfield 57, 3) := by decide +kernel
theorem dX3_posts_91 : decode cX3_posts 91 = .ok (.invokevirtual 75, 3) := by decide +kernel
theorem dX3_posts_94 : decode cX3_posts 94 = .ok (.aload_n 0, 1) := by decide +kernel
theorem dX3_posts_95 : decode cX3_posts 95 = .ok (.iload_n 2, 1) := by decide +kernel
theorem dX3_posts_96 : decode cX3_posts 96 = .ok (.iconst 1, 1) := by decide +kernel
theorem dX3_posts_97 : decode cX3_posts 97 = .ok (.aload_n 0, 1) := by decide +kernel
theorem dX3_posts_98 : decode cX3_posts 98 = .ok (.getfield 17, 3) := by decide +kernel
theorem dX3_posts_101 : decode cX3_posts 101 = .ok (.iload_n 1, 1) := by decide +kernel
theorem dX3_posts_102 : decode cX3_posts 102 = .ok (.iaload, 1) := by decide +kernel
theorem dX3_posts_103 : decode cX3_posts 103 = .ok (.iload_n 1, 1) := by decide +kernel
theorem dX3_posts_104 : decode cX3_posts 104 = .ok (.invokevirtual 75, 3) := by decide +kernel
theorem dX3_posts_107 : decode cX3_posts 107 = .ok (.aload_n 0, 1) := by decide +kernel
theorem dX3_posts_108 : decode cX3_posts 108 = .ok (.getfield 26, 3) := by decide +kernel
theorem dX3_posts_111 : decode cX3_posts 111 = .ok (.iload_n 2, 1) := by decide +kernel
theorem dX3_posts_112 : decode cX3_posts 112 = .ok (.iconst 2, 1) := by decide +kernel
theorem dX3_posts_113 : decode cX3_posts 113 = .ok (.iastore, 1) := by decide +kernel
theorem dX3_posts_114 : decode cX3_posts 114 = .ok (.aload_n 0, 1) := by decide +kernel
theorem dX3_posts_115 : decode cX3_posts 115 = .ok (.iload_n 2, 1) := by decide +kernel
theorem dX3_posts_116 : decode cX3_posts 116 = .ok (.putfield 57, 3) := by decide +kernel
theorem dX3_posts_119 : decode cX3_posts 119 = .ok (.goto 32, 3) := by decide +kernel
theorem dX3_posts_122 : decode cX3_posts 122 = .ok (.aload_n 0, 1) := by decide +kernel
theorem dX3_posts_123 : decode cX3_posts 123 = .ok (.aload_n 0, 1) := by decide +kernel
theorem dX3_posts_124 : decode cX3_posts 124 = .ok (.aload_n 0, 1) := by decide +kernel
theorem dX3_posts_125 : decode cX3_posts 125 = .ok (.getfield 17, 3) := by decide +kernel
theorem dX3_posts_128 : decode cX3_posts 128 = .ok (.iload_n 1, 1) := by decide +kernel
theorem dX3_posts_129 : decode cX3_posts 129 = .ok (.iaload, 1) := by decide +kernel
theorem dX3_posts_130 : decode cX3_posts 130 = .ok (.aload_n 0, 1) := by decide +kernel
theorem dX3_posts_131 : decode cX3_posts 131 = .ok (.getfield 13, 3) := by decide +kernel
theorem dX3_posts_134 : decode cX3_posts 134 = .ok (.iload_n 1, 1) := by decide +kernel
theorem dX3_posts_135 : decode cX3_posts 135 = .ok (.iaload, 1) := by decide +kernel
theorem dX3_posts_136 : decode cX3_posts 136 = .ok (.iconst 1, 1) := by decide +kernel
theorem dX3_posts_137 : decode cX3_posts 137 = .ok (.iadd, 1) := by decide +kernel
theorem dX3_posts_138 : decode cX3_posts 138 = .ok (.invokevirtual 86, 3) := by decide +kernel
theorem dX3_posts_141 : decode cX3_posts 141 = .ok (.aload_n 0, 1) := by decide +kernel
theorem dX3_posts_142 : decode cX3_posts 142 = .ok (.getfield 17, 3) := by decide +kernel
theorem dX3_posts_145 : decode cX3_posts 145 = .ok (.iload_n 1, 1) := by decide +kernel
theorem dX3_posts_146 : decode cX3_posts 146 = .ok (.iaload, 1) := by decide +kernel
theorem dX3_posts_147 : decode cX3_posts 147 = .ok (.iload_n 1, 1) := by decide +kernel
theorem dX3_posts_148 : decode cX3_posts 148 = .ok (.invokevirtual 89, 3) := by decide +kernel
theorem dX3_posts_151 : decode cX3_posts 151 = .ok (.return_, 1) := by decide +kernel
theorem dX3_put_0 : decode cX3_put 0 = .ok (.aload_n 0, 1) := by decide +kernel
theorem dX3_put_1 : decode cX3_put 1 = .ok (.iload_n 1, 1) := by decide +kernel
theorem dX3_put_2 : decode cX3_put 2 = .ok (.invokestatic 93, 3) := by decide +kernel
theorem dX3_put_5 : decode cX3_put 5 = .ok (.ifCond .eq 18, 3) := by decide +kernel
theorem dX3_put_8 : decode cX3_put 8 = .ok (.iload_n 2, 1) := by decide +kernel
theorem dX3_put_9 : decode cX3_put 9 = .ok (.iconst 0, 1) := by decide +kernel
theorem dX3_put_10 : decode cX3_put 10 = .ok (.sipush 9999, 3) := by decide +kernel
theorem dX3_put_13 : decode cX3_put 13 = .ok (.invokestatic 64, 3) := by decide +kernel
theorem dX3_put_16 : decode cX3_put 16 = .ok (.ifCond .eq 7, 3) := by decide +kernel
theorem dX3_put_19 : decode cX3_put 19 = .ok (.iconst 0, 1) := by decide +kernel
theorem dX3_put_20 : decode cX3_put 20 = .ok (.goto 4, 3) := by decide +kernel
theorem dX3_put_23 : decode cX3_put 23 = .ok (.iconst 1, 1) := by decide +kernel
theorem dX3_put_24 : decode cX3_put 24 = .ok (.invokevirtual 97, 3) := by decide +kernel
theorem dX3_put_27 : decode cX3_put 27 = .ok (.ifCond .ne 5, 3) := by decide +kernel
theorem dX3_put_30 : decode cX3_put 30 = .ok (.iconst 0, 1) := by decide +kernel
theorem dX3_put_31 : decode cX3_put 31 = .ok (.ireturn, 1) := by decide +kernel
theorem dX3_put_32 : decode cX3_put 32 = .ok (.aload_n 0, 1) := by decide +kernel
theorem dX3_put_33 : decode cX3_put 33 = .ok (.iload_n 1, 1) := by decide +kernel
theorem dX3_put_34 : decode cX3_put 34 = .ok (.iconst 0, 1) := by decide +kernel
theorem dX3_put_35 : decode cX3_put 35 = .ok (.invokevirtual 86, 3) := by decide +kernel
theorem dX3_put_38 : decode cX3_put 38 = .ok (.istore_n 3, 1) := by decide +kernel
theorem dX3_put_39 : decode cX3_put 39 = .ok (.aload_n 0, 1) := by decide +kernel
theorem dX3_put_40 : decode cX3_put 40 = .ok (.iload_n 3, 1) := by decide +kernel
theorem dX3_put_41 : decode cX3_put 41 = .ok (.iload_n 1, 1) := by decide +kernel
theorem dX3_put_42 : decode cX3_put 42 = .ok (.invokevirtual 71, 3) := by decide +kernel
theorem dX3_put_45 : decode cX3_put 45 = .ok (.istore 4, 2) := by decide +kernel
theorem dX3_put_47 : decode cX3_put 47 = .ok (.aload_n 0, 1) := by decide +kernel
theorem dX3_put_48 : decode cX3_put 48 = .ok (.iload_n 3, 1) := by decide +kernel
theorem dX3_put_49 : decode cX3_put 49 = .ok (.iload 4, 2) := by decide +kernel
theorem dX3_put_51 : decode cX3_put 51 = .ok (.iload_n 1, 1) := by decide +kernel
theorem dX3_put_52 : decode cX3_put 52 = .ok (.invokevirtual 100, 3) := by decide +kernel
theorem dX3_put_55 : decode cX3_put 55 = .ok (.ifCond .ne 12, 3) := by decide +kernel
theorem dX3_put_58 : decode cX3_put 58 = .ok (.aload_n 0, 1) := by decide +kernel
theorem dX3_put_59 : decode cX3_put 59 = .ok (.iload_n 3, 1) := by decide +kernel
theorem dX3_put_60 : decode cX3_put 60 = .ok (.iload_n 1, 1) := by decide +kernel
theorem dX3_put_61 : decode cX3_put 61 = .ok (.iload_n 2, 1) := by decide +kernel
theorem dX3_put_62 : decode cX3_put 62 = .ok (.invokevirtual 89, 3) := by decide +kernel
theorem dX3_put_65 : decode cX3_put 65 = .ok (.iconst (-1), 1) := by decide +kernel
theorem dX3_put_66 : decode cX3_put 66 = .ok (.ireturn, 1) := by decide +kernel
theorem dX3_put_67 : decode cX3_put 67 = .ok (.aload_n 0, 1) := by decide +kernel
theorem dX3_put_68 : decode cX3_put 68 = .ok (.getfield 32, 3) := by decide +kernel
theorem dX3_put_71 : decode cX3_put 71 = .ok (.iconst 5, 1) := by decide +kernel
theorem dX3_put_72 : decode cX3_put 72 = .ok (.iload_n 3, 1) := by decide +kernel
theorem dX3_put_73 : decode cX3_put 73 = .ok (.imul, 1) := by decide +kernel
theorem dX3_put_74 : decode cX3_put 74 = .ok (.iload 4, 2) := by decide +kernel
theorem dX3_put_76 : decode cX3_put 76 = .ok (.iadd, 1) := by decide +kernel
theorem dX3_put_77 : decode cX3_put 77 = .ok (.iaload, 1) := by decide +kernel
theorem dX3_put_78 : decode cX3_put 78 = .ok (.istore 5, 2) := by decide +kernel
theorem dX3_put_80 : decode cX3_put 80 = .ok (.aload_n 0, 1) := by decide +kernel
theorem dX3_put_81 : decode cX3_put 81 = .ok (.getfield 32, 3) := by decide +kernel
theorem dX3_put_84 : decode cX3_put 84 = .ok (.iconst 5, 1) := by decide +kernel
theorem dX3_put_85 : decode cX3_put 85 = .ok (.iload_n 3, 1) := by decide +kernel
theorem dX3_put_86 : decode cX3_put 86 = .ok (.imul, 1) := by decide +kernel
theorem dX3_put_87 : decode cX3_put 87 = .ok (.iload 4, 2) := by decide +kernel
theorem dX3_put_89 : decode cX3_put 89 = .ok (.iadd, 1) := by decide +kernel
theorem dX3_put_90 : decode cX3_put 90 = .ok (.iload_n 2, 1) := by decide +kernel
theorem dX3_put_91 : decode cX3_put 91 = .ok (.iastore, 1) := by decide +kernel
theorem dX3_put_92 : decode cX3_put 92 = .ok (.iload 5, 2) := by decide +kernel
theorem dX3_put_94 : decode cX3_put 94 = .ok (.ireturn, 1) := by decide +kernel
theorem dX3_removes_0 : decode cX3_removes 0 = .ok (.aload_n 0, 1) := by decide +kernel
theorem dX3_removes_1 : decode cX3_removes 1 = .ok (.getfield 26, 3) := by decide +kernel
theorem dX3_removes_4 : decode cX3_removes 4 = .ok (.iload_n 1, 1) := by decide +kernel
theorem dX3_removes_5 : decode cX3_removes 5 = .ok (.dup2, 1) := by decide +kernel
theorem dX3_removes_6 : decode cX3_removes 6 = .ok (.iaload, 1) := by decide +kernel
theorem dX3_removes_7 : decode cX3_removes 7 = .ok (.iconst 1, 1) := by decide +kernel
theorem dX3_removes_8 : decode cX3_removes 8 = .ok (.isub, 1) := by decide +kernel
theorem dX3_removes_9 : decode cX3_removes 9 = .ok (.iastore, 1) := by decide +kernel
theorem dX3_removes_10 : decode cX3_removes 10 = .ok (.iload_n 2, 1) := by decide +kernel
theorem dX3_removes_11 : decode cX3_removes 11 = .ok (.istore_n 3, 1) := by decide +kernel
theorem dX3_removes_12 : decode cX3_removes 12 = .ok (.iload_n 3, 1) := by decide +kernel
theorem dX3_removes_13 : decode cX3_removes 13 = .ok (.aload_n 0, 1) := by decide +kernel
theorem dX3_removes_14 : decode cX3_removes 14 = .ok (.getfield 26, 3) := by decide +kernel
theorem dX3_removes_17 : decode cX3_removes 17 = .ok (.iload_n 1, 1) := by decide +kernel
theorem dX3_removes_18 : decode cX3_removes 18 = .ok (.iaload, 1) := by decide +kernel
theorem dX3_removes_19 : decode cX3_removes 19 = .ok (.if_icmp .ge 39, 3) := by decide +kernel
theorem dX3_removes_22 : decode cX3_removes 22 = .ok (.aload_n 0, 1) := by decide +kernel
theorem dX3_removes_23 : decode cX3_removes 23 = .ok (.iload_n 1, 1) := by decide +kernel
theorem dX3_removes_24 : decode cX3_removes 24 = .ok (.iload_n 3, 1) := by decide +kernel
theorem dX3_removes_25 : decode cX3_removes 25 = .ok (.aload_n 0, 1) := by decide +kernel
theorem dX3_removes_26 : decode cX3_removes 26 = .ok (.getfield 29, 3) := by decide +kernel
theorem dX3_removes_29 : decode cX3_removes 29 = .ok (.iconst 5, 1) := by decide +kernel
theorem dX3_removes_30 : decode cX3_removes 30 = .ok (.iload_n 1, 1) := by decide +kernel
theorem dX3_removes_31 : decode cX3_removes 31 = .ok (.imul, 1) := by decide +kernel
theorem dX3_removes_32 : decode cX3_removes 32 = .ok (.iload_n 3, 1) := by decide +kernel
theorem dX3_removes_33 : decode cX3_removes 33 = .ok (.iadd, 1) := by decide +kernel
theorem dX3_removes_34 : decode cX3_removes 34 = .ok (.iconst 1, 1) := by decide +kernel
theorem dX3_removes_35 : decode cX3_removes 35 = .ok (.iadd, 1) := by decide +kernel
theorem dX3_removes_36 : decode cX3_removes 36 = .ok (.iaload, 1) := by decide +kernel
theorem dX3_removes_37 : decode cX3_removes 37 = .ok (.aload_n 0, 1) := by decide +kernel
theorem dX3_removes_38 : decode cX3_removes 38 = .ok (.getfield 32, 3) := by decide +kernel
theorem dX3_removes_41 : decode cX3_removes 41 = .ok (.iconst 5, 1) := by decide +kernel
theorem dX3_removes_42 : decode cX3_removes 42 = .ok (.iload_n 1, 1) := by decide +kernel
theorem dX3_removes_43 : decode cX3_removes 43 = .ok (.imul, 1) := by decide +kernel
theorem dX3_removes_44 : decode cX3_removes 44 = .ok (.iload_n 3, 1) := by decide +kernel
theorem dX3_removes_45 : decode cX3_removes 45 = .ok (.iadd, 1) := by decide +kernel
theorem dX3_removes_46 : decode cX3_removes 46 = .ok (.iconst 1, 1) := by decide +kernel
theorem dX3_removes_47 : decode cX3_removes 47 = .ok (.iadd, 1) := by decide +kernel
theorem dX3_removes_48 : decode cX3_removes 48 = .ok (.iaload, 1) := by decide +kernel
theorem dX3_removes_49 : decode cX3_removes 49 = .ok (.invokevirtual 75, 3) := by decide +kernel
theorem dX3_removes_52 : decode cX3_removes 52 = .ok (.iinc 3 1, 3) := by decide +kernel
theorem dX3_removes_55 : decode cX3_removes 55 = .ok (.goto (-43), 3) := by decide +kernel
theorem dX3_removes_58 : decode cX3_removes 58 = .ok (.return_, 1) := by decide +kernel
theorem dX3_valueOf_0 : decode cX3_valueOf 0 = .ok (.aload_n 0, 1) := by decide +kernel
theorem dX3_valueOf_1 : decode cX3_valueOf 1 = .ok (.iload_n 1, 1) := by decide +kernel
theorem dX3_valueOf_2 : decode cX3_valueOf 2 = .ok (.iconst 0, 1) := by decide +kernel
theorem dX3_valueOf_3 : decode cX3_valueOf 3 = .ok (.invokevirtual 86, 3) := by decide +kernel
theorem dX3_valueOf_6 : decode cX3_valueOf 6 = .ok (.istore_n 2, 1) := by decide +kernel
theorem dX3_valueOf_7 : decode cX3_valueOf 7 = .ok (.aload_n 0, 1) := by decide +kernel
theorem dX3_valueOf_8 : decode cX3_valueOf 8 = .ok (.iload_n 2, 1) := by decide +kernel
theorem dX3_valueOf_9 : decode cX3_valueOf 9 = .ok (.iload_n 1, 1) := by decide +kernel
theorem dX3_valueOf_10 : decode cX3_valueOf 10 = .ok (.invokevirtual 71, 3) := by decide +kernel
theorem dX3_valueOf_13 : decode cX3_valueOf 13 = .ok (.istore_n 3, 1) := by decide +kernel
theorem dX3_valueOf_14 : decode cX3_valueOf 14 = .ok (.aload_n 0, 1) := by decide +kernel
theorem dX3_valueOf_15 : decode cX3_valueOf 15 = .ok (.iload_n 2, 1) := by decide +kernel
theorem dX3_valueOf_16 : decode cX3_valueOf 16 = .ok (.iload_n 3, 1) := by decide +kernel
theorem dX3_valueOf_17 : decode cX3_valueOf 17 = .ok (.iload_n 1, 1) := by decide +kernel
theorem dX3_valueOf_18 : decode cX3_valueOf 18 = .ok (.invokevirtual 100, 3) := by decide +kernel
theorem dX3_valueOf_21 : decode cX3_valueOf 21 = .ok (.ifCond .eq 16, 3) := by decide +kernel
theorem dX3_valueOf_24 : decode cX3_valueOf 24 = .ok (.aload_n 0, 1) := by decide +kernel
theorem dX3_valueOf_25 : decode cX3_valueOf 25 = .ok (.getfield 32, 3) := by decide +kernel
theorem dX3_valueOf_28 : decode cX3_valueOf 28 = .ok (.iconst 5, 1) := by decide +kernel
theorem dX3_valueOf_29 : decode cX3_valueOf 29 = .ok (.iload_n 2, 1) := by decide +kernel
theorem dX3_valueOf_30 : decode cX3_valueOf 30 = .ok (.imul, 1) := by decide +kernel
theorem dX3_valueOf_31 : decode cX3_valueOf 31 = .ok (.iload_n 3, 1) := by decide +kernel
theorem dX3_valueOf_32 : decode cX3_valueOf 32 = .ok (.iadd, 1) := by decide +kernel
theorem dX3_valueOf_33 : decode cX3_valueOf 33 = .ok (.iaload, 1) := by decide +kernel
theorem dX3_valueOf_34 : decode cX3_valueOf 34 = .ok (.goto 4, 3) := by decide +kernel
theorem dX3_valueOf_37 : decode cX3_valueOf 37 = .ok (.iconst (-1), 1) := by decide +kernel
theorem dX3_valueOf_38 : decode cX3_valueOf 38 = .ok (.ireturn, 1) := by decide +kernel
theorem dX3_take_0 : decode cX3_take 0 = .ok (.aload_n 0, 1) := by decide +kernel
theorem dX3_take_1 : decode cX3_take 1 = .ok (.iload_n 1, 1) := by decide +kernel
theorem dX3_take_2 : decode cX3_take 2 = .ok (.invokestatic 93, 3) := by decide +kernel
theorem dX3_take_5 : decode cX3_take 5 = .ok (.ifCond .eq 7, 3) := by decide +kernel
theorem dX3_take_8 : decode cX3_take 8 = .ok (.iconst 0, 1) := by decide +kernel
theorem dX3_take_9 : decode cX3_take 9 = .ok (.goto 4, 3) := by decide +kernel
theorem dX3_take_12 : decode cX3_take 12 = .ok (.iconst 1, 1) := by decide +kernel
theorem dX3_take_13 : decode cX3_take 13 = .ok (.invokevirtual 97, 3) := by decide +kernel
theorem dX3_take_16 : decode cX3_take 16 = .ok (.ifCond .ne 5, 3) := by decide +kernel
theorem dX3_take_19 : decode cX3_take 19 = .ok (.iconst 0, 1) := by decide +kernel
theorem dX3_take_20 : decode cX3_take 20 = .ok (.ireturn, 1) := by decide +kernel
theorem dX3_take_21 : decode cX3_take 21 = .ok (.aload_n 0, 1) := by decide +kernel
theorem dX3_take_22 : decode cX3_take 22 = .ok (.iload_n 1, 1) := by decide +kernel
theorem dX3_take_23 : decode cX3_take 23 = .ok (.invokevirtual 103, 3) := by decide +kernel
theorem dX3_take_26 : decode cX3_take 26 = .ok (.istore_n 2, 1) := by decide +kernel
theorem dX3_take_27 : decode cX3_take 27 = .ok (.aload_n 0, 1) := by decide +kernel
theorem dX3_take_28 : decode cX3_take 28 = .ok (.iload_n 1, 1) := by decide +kernel
theorem dX3_take_29 : decode cX3_take 29 = .ok (.iconst 0, 1) := by decide +kernel
theorem dX3_take_30 : decode cX3_take 30 = .ok (.invokevirtual 86, 3) := by decide +kernel
theorem dX3_take_33 : decode cX3_take 33 = .ok (.istore_n 3, 1) := by decide +kernel
theorem dX3_take_34 : decode cX3_take 34 = .ok (.iload_n 2, 1) := by decide +kernel
theorem dX3_take_35 : decode cX3_take 35 = .ok (.iconst (-1), 1) := by decide +kernel
theorem dX3_take_36 : decode cX3_take 36 = .ok (.if_icmp .eq 14, 3) := by decide +kernel
theorem dX3_take_39 : decode cX3_take 39 = .ok (.aload_n 0, 1) := by decide +kernel
theorem dX3_take_40 : decode cX3_take 40 = .ok (.iload_n 3, 1) := by decide +kernel
theorem dX3_take_41 : decode cX3_take 41 = .ok (.aload_n 0, 1) := by decide +kernel
theorem dX3_take_42 : decode cX3_take 42 = .ok (.iload_n 3, 1) := by decide +kernel
theorem dX3_take_43 : decode cX3_take 43 = .ok (.iload_n 1, 1) := by decide +kernel
theorem dX3_take_44 : decode cX3_take 44 = .ok (.invokevirtual 71, 3) := by decide +kernel
theorem dX3_take_47 : decode cX3_take 47 = .ok (.invokevirtual 107, 3) := by decide +kernel
theorem dX3_take_50 : decode cX3_take 50 = .ok (.iload_n 2, 1) := by decide +kernel
theorem dX3_take_51 : decode cX3_take 51 = .ok (.ireturn, 1) := by decide +kernel
theorem dX3_get_0 : decode cX3_get 0 = .ok (.aload_n 0, 1) := by decide +kernel
theorem dX3_get_1 : decode cX3_get 1 = .ok (.iload_n 1, 1) := by decide +kernel
theorem dX3_get_2 : decode cX3_get 2 = .ok (.invokestatic 93, 3) := by decide +kernel
theorem dX3_get_5 : decode cX3_get 5 = .ok (.ifCond .eq 7, 3) := by decide +kernel
theorem dX3_get_8 : decode cX3_get 8 = .ok (.iconst 0, 1) := by decide +kernel
theorem dX3_get_9 : decode cX3_get 9 = .ok (.goto 4, 3) := by decide +kernel
theorem dX3_get_12 : decode cX3_get 12 = .ok (.iconst 1, 1) := by decide +kernel
theorem dX3_get_13 : decode cX3_get 13 = .ok (.invokevirtual 97, 3) := by decide +kernel
theorem dX3_get_16 : decode cX3_get 16 = .ok (.ifCond .eq 11, 3) := by decide +kernel
theorem dX3_get_19 : decode cX3_get 19 = .ok (.aload_n 0, 1) := by decide +kernel
theorem dX3_get_20 : decode cX3_get 20 = .ok (.iload_n 1, 1) := by decide +kernel
theorem dX3_get_21 : decode cX3_get 21 = .ok (.invokevirtual 103, 3) := by decide +kernel
theorem dX3_get_24 : decode cX3_get 24 = .ok (.goto 4, 3) := by decide +kernel
theorem dX3_get_27 : decode cX3_get 27 = .ok (.iconst 0, 1) := by decide +kernel
theorem dX3_get_28 : decode cX3_get 28 = .ok (.ireturn, 1) := by decide +kernel
theorem dX3_getByLeaves_0 : decode cX3_getByLeaves 0 = .ok (.aload_n 0, 1) := by decide +kernel
theorem dX3_getByLeaves_1 : decode cX3_getByLeaves 1 = .ok (.iload_n 1, 1) := by decide +kernel
theorem dX3_getByLeaves_2 : decode cX3_getByLeaves 2 = .ok (.invokestatic 93, 3) := by decide +kernel
theorem dX3_getByLeaves_5 : decode cX3_getByLeaves 5 = .ok (.ifCond .eq 7, 3) := by decide +kernel
theorem dX3_getByLeaves_8 : decode cX3_getByLeaves 8 = .ok (.iconst 0, 1) := by decide +kernel
theorem dX3_getByLeaves_9 : decode cX3_getByLeaves 9 = .ok (.goto 4, 3) := by decide +kernel
theorem dX3_getByLeaves_12 : decode cX3_getByLeaves 12 = .ok (.iconst 1, 1) := by decide +kernel
theorem dX3_getByLeaves_13 : decode cX3_getByLeaves 13 = .ok (.invokevirtual 97, 3) := by decide +kernel
theorem dX3_getByLeaves_16 : decode cX3_getByLeaves 16 = .ok (.ifCond .eq 11, 3) := by decide +kernel
theorem dX3_getByLeaves_19 : decode cX3_getByLeaves 19 = .ok (.aload_n 0, 1) := by decide +kernel
theorem dX3_getByLeaves_20 : decode cX3_getByLeaves 20 = .ok (.iload_n 1, 1) := by decide +kernel
theorem dX3_getByLeaves_21 : decode cX3_getByLeaves 21 = .ok (.invokevirtual 103, 3) := by decide +kernel
theorem dX3_getByLeaves_24 : decode cX3_getByLeaves 24 = .ok (.goto 4, 3) := by decide +kernel
theorem dX3_getByLeaves_27 : decode cX3_getByLeaves 27 = .ok (.iconst 0, 1) := by decide +kernel
theorem dX3_getByLeaves_28 : decode cX3_getByLeaves 28 = .ok (.ireturn, 1) := by decide +kernel
theorem dX3_keys_0 : decode cX3_keys 0 = .ok (.aload_n 0, 1) := by decide +kernel
theorem dX3_keys_1 : decode cX3_keys 1 = .ok (.iconst 0, 1) := by decide +kernel
theorem dX3_keys_2 : decode cX3_keys 2 = .ok (.putfield 61, 3) := by decide +kernel
theorem dX3_keys_5 : decode cX3_keys 5 = .ok (.iconst 0, 1) := by decide +kernel
theorem dX3_keys_6 : decode cX3_keys 6 = .ok (.istore_n 1, 1) := by decide +kernel
theorem dX3_keys_7 : decode cX3_keys 7 = .ok (.iconst 0, 1) := by decide +kernel
theorem dX3_keys_8 : decode cX3_keys 8 = .ok (.istore_n 2, 1) := by decide +kernel
theorem dX3_keys_9 : decode cX3_keys 9 = .ok (.iload_n 2, 1) := by decide +kernel
theorem dX3_keys_10 : decode cX3_keys 10 = .ok (.sipush 800, 3) := by decide +kernel
theorem dX3_keys_13 : decode cX3_keys 13 = .ok (.if_icmp .ge 40, 3) := by decide +kernel
theorem dX3_keys_16 : decode cX3_keys 16 = .ok (.iload_n 1, 1) := by decide +kernel
theorem dX3_keys_17 : decode cX3_keys 17 = .ok (.aload_n 0, 1) := by decide +kernel
theorem dX3_keys_18 : decode cX3_keys 18 = .ok (.getfield 7, 3) := by decide +kernel
theorem dX3_keys_21 : decode cX3_keys 21 = .ok (.iload_n 2, 1) := by decide +kernel
theorem dX3_keys_22 : decode cX3_keys 22 = .ok (.baload, 1) := by decide +kernel
theorem dX3_keys_23 : decode cX3_keys 23 = .ok (.ifCond .eq 21, 3) := by decide +kernel
theorem dX3_keys_26 : decode cX3_keys 26 = .ok (.aload_n 0, 1) := by decide +kernel
theorem dX3_keys_27 : decode cX3_keys 27 = .ok (.getfield 13, 3) := by decide +kernel
theorem dX3_keys_30 : decode cX3_keys 30 = .ok (.iload_n 2, 1) := by decide +kernel
theorem dX3_keys_31 : decode cX3_keys 31 = .ok (.iaload, 1) := by decide +kernel
theorem dX3_keys_32 : decode cX3_keys 32 = .ok (.ifCond .ne 12, 3) := by decide +kernel
theorem dX3_keys_35 : decode cX3_keys 35 = .ok (.aload_n 0, 1) := by decide +kernel
