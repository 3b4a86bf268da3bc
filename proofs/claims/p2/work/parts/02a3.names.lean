theorem dX7_readNumber_17 : decode cX7_readNumber 17 = .ok (.aload_n 0, 1) := by decide +kernel
theorem dX7_readNumber_18 : decode cX7_readNumber 18 = .ok (.getfield 29, 3) := by decide +kernel
theorem dX7_readNumber_21 : decode cX7_readNumber 21 = .ok (.if_icmp .ge 69, 3) := by decide +kernel
theorem dX7_readNumber_24 : decode cX7_readNumber 24 = .ok (.aload_n 0, 1) := by decide +kernel
theorem dX7_readNumber_25 : decode cX7_readNumber 25 = .ok (.getfield 9, 3) := by decide +kernel
theorem dX7_readNumber_28 : decode cX7_readNumber 28 = .ok (.aload_n 0, 1) := by decide +kernel
theorem dX7_readNumber_29 : decode cX7_readNumber 29 = .ok (.getfield 32, 3) := by decide +kernel
theorem dX7_readNumber_32 : decode cX7_readNumber 32 = .ok (.baload, 1) := by decide +kernel
theorem dX7_readNumber_33 : decode cX7_readNumber 33 = .ok (.bipush 48, 2) := by decide +kernel
theorem dX7_readNumber_35 : decode cX7_readNumber 35 = .ok (.if_icmp .lt 55, 3) := by decide +kernel
theorem dX7_readNumber_38 : decode cX7_readNumber 38 = .ok (.aload_n 0, 1) := by decide +kernel
theorem dX7_readNumber_39 : decode cX7_readNumber 39 = .ok (.getfield 9, 3) := by decide +kernel
theorem dX7_readNumber_42 : decode cX7_readNumber 42 = .ok (.aload_n 0, 1) := by decide +kernel
theorem dX7_readNumber_43 : decode cX7_readNumber 43 = .ok (.getfield 32, 3) := by decide +kernel
theorem dX7_readNumber_46 : decode cX7_readNumber 46 = .ok (.baload, 1) := by decide +kernel
theorem dX7_readNumber_47 : decode cX7_readNumber 47 = .ok (.bipush 57, 2) := by decide +kernel
theorem dX7_readNumber_49 : decode cX7_readNumber 49 = .ok (.if_icmp .gt 41, 3) := by decide +kernel
theorem dX7_readNumber_52 : decode cX7_readNumber 52 = .ok (.iload 5, 2) := by decide +kernel
theorem dX7_readNumber_54 : decode cX7_readNumber 54 = .ok (.bipush 10, 2) := by decide +kernel
theorem dX7_readNumber_56 : decode cX7_readNumber 56 = .ok (.imul, 1) := by decide +kernel
theorem dX7_readNumber_57 : decode cX7_readNumber 57 = .ok (.aload_n 0, 1) := by decide +kernel
theorem dX7_readNumber_58 : decode cX7_readNumber 58 = .ok (.getfield 9, 3) := by decide +kernel
theorem dX7_readNumber_61 : decode cX7_readNumber 61 = .ok (.aload_n 0, 1) := by decide +kernel
theorem dX7_readNumber_62 : decode cX7_readNumber 62 = .ok (.getfield 32, 3) := by decide +kernel
theorem dX7_readNumber_65 : decode cX7_readNumber 65 = .ok (.baload, 1) := by decide +kernel
theorem dX7_readNumber_66 : decode cX7_readNumber 66 = .ok (.iadd, 1) := by decide +kernel
theorem dX7_readNumber_67 : decode cX7_readNumber 67 = .ok (.bipush 48, 2) := by decide +kernel
theorem dX7_readNumber_69 : decode cX7_readNumber 69 = .ok (.isub, 1) := by decide +kernel
theorem dX7_readNumber_70 : decode cX7_readNumber 70 = .ok (.ldc 87, 2) := by decide +kernel
theorem dX7_readNumber_72 : decode cX7_readNumber 72 = .ok (.invokestatic 23, 3) := by decide +kernel
theorem dX7_readNumber_75 : decode cX7_readNumber 75 = .ok (.istore 5, 2) := by decide +kernel
theorem dX7_readNumber_77 : decode cX7_readNumber 77 = .ok (.aload_n 0, 1) := by decide +kernel
theorem dX7_readNumber_78 : decode cX7_readNumber 78 = .ok (.dup, 1) := by decide +kernel
theorem dX7_readNumber_79 : decode cX7_readNumber 79 = .ok (.getfield 32, 3) := by decide +kernel
theorem dX7_readNumber_82 : decode cX7_readNumber 82 = .ok (.iconst 1, 1) := by decide +kernel
theorem dX7_readNumber_83 : decode cX7_readNumber 83 = .ok (.iadd, 1) := by decide +kernel
theorem dX7_readNumber_84 : decode cX7_readNumber 84 = .ok (.putfield 32, 3) := by decide +kernel
theorem dX7_readNumber_87 : decode cX7_readNumber 87 = .ok (.goto (-74), 3) := by decide +kernel
theorem dX7_readNumber_90 : decode cX7_readNumber 90 = .ok (.aload_n 0, 1) := by decide +kernel
theorem dX7_readNumber_91 : decode cX7_readNumber 91 = .ok (.getfield 32, 3) := by decide +kernel
theorem dX7_readNumber_94 : decode cX7_readNumber 94 = .ok (.iload 4, 2) := by decide +kernel
theorem dX7_readNumber_96 : decode cX7_readNumber 96 = .ok (.if_icmp .ne 11, 3) := by decide +kernel
theorem dX7_readNumber_99 : decode cX7_readNumber 99 = .ok (.aload_n 0, 1) := by decide +kernel
theorem dX7_readNumber_100 : decode cX7_readNumber 100 = .ok (.iconst 1, 1) := by decide +kernel
theorem dX7_readNumber_101 : decode cX7_readNumber 101 = .ok (.iload 4, 2) := by decide +kernel
theorem dX7_readNumber_103 : decode cX7_readNumber 103 = .ok (.invokevirtual 62, 3) := by decide +kernel
theorem dX7_readNumber_106 : decode cX7_readNumber 106 = .ok (.ireturn, 1) := by decide +kernel
theorem dX7_readNumber_107 : decode cX7_readNumber 107 = .ok (.iload 5, 2) := by decide +kernel
theorem dX7_readNumber_109 : decode cX7_readNumber 109 = .ok (.iload_n 2, 1) := by decide +kernel
theorem dX7_readNumber_110 : decode cX7_readNumber 110 = .ok (.iload_n 3, 1) := by decide +kernel
theorem dX7_readNumber_111 : decode cX7_readNumber 111 = .ok (.invokestatic 88, 3) := by decide +kernel
theorem dX7_readNumber_114 : decode cX7_readNumber 114 = .ok (.ifCond .ne 11, 3) := by decide +kernel
theorem dX7_readNumber_117 : decode cX7_readNumber 117 = .ok (.aload_n 0, 1) := by decide +kernel
theorem dX7_readNumber_118 : decode cX7_readNumber 118 = .ok (.iconst 2, 1) := by decide +kernel
theorem dX7_readNumber_119 : decode cX7_readNumber 119 = .ok (.iload 4, 2) := by decide +kernel
theorem dX7_readNumber_121 : decode cX7_readNumber 121 = .ok (.invokevirtual 62, 3) := by decide +kernel
theorem dX7_readNumber_124 : decode cX7_readNumber 124 = .ok (.ireturn, 1) := by decide +kernel
theorem dX7_readNumber_125 : decode cX7_readNumber 125 = .ok (.aload_n 0, 1) := by decide +kernel
theorem dX7_readNumber_126 : decode cX7_readNumber 126 = .ok (.getfield 19, 3) := by decide +kernel
theorem dX7_readNumber_129 : decode cX7_readNumber 129 = .ok (.iload_n 1, 1) := by decide +kernel
theorem dX7_readNumber_130 : decode cX7_readNumber 130 = .ok (.iload 5, 2) := by decide +kernel
theorem dX7_readNumber_132 : decode cX7_readNumber 132 = .ok (.iastore, 1) := by decide +kernel
theorem dX7_readNumber_133 : decode cX7_readNumber 133 = .ok (.iconst 1, 1) := by decide +kernel
theorem dX7_readNumber_134 : decode cX7_readNumber 134 = .ok (.ireturn, 1) := by decide +kernel
theorem dX7_fail_0 : decode cX7_fail 0 = .ok (.aload_n 0, 1) := by decide +kernel
theorem dX7_fail_1 : decode cX7_fail 1 = .ok (.iload_n 1, 1) := by decide +kernel
theorem dX7_fail_2 : decode cX7_fail 2 = .ok (.putfield 35, 3) := by decide +kernel
theorem dX7_fail_5 : decode cX7_fail 5 = .ok (.aload_n 0, 1) := by decide +kernel
theorem dX7_fail_6 : decode cX7_fail 6 = .ok (.iload_n 2, 1) := by decide +kernel
theorem dX7_fail_7 : decode cX7_fail 7 = .ok (.putfield 15, 3) := by decide +kernel
theorem dX7_fail_10 : decode cX7_fail 10 = .ok (.iconst 0, 1) := by decide +kernel
theorem dX7_fail_11 : decode cX7_fail 11 = .ok (.ireturn, 1) := by decide +kernel
theorem dX7_skipBlanks_0 : decode cX7_skipBlanks 0 = .ok (.aload_n 0, 1) := by decide +kernel
theorem dX7_skipBlanks_1 : decode cX7_skipBlanks 1 = .ok (.getfield 32, 3) := by decide +kernel
theorem dX7_skipBlanks_4 : decode cX7_skipBlanks 4 = .ok (.aload_n 0, 1) := by decide +kernel
theorem dX7_skipBlanks_5 : decode cX7_skipBlanks 5 = .ok (.getfield 29, 3) := by decide +kernel
theorem dX7_skipBlanks_8 : decode cX7_skipBlanks 8 = .ok (.if_icmp .ge 30, 3) := by decide +kernel
theorem dX7_skipBlanks_11 : decode cX7_skipBlanks 11 = .ok (.aload_n 0, 1) := by decide +kernel
theorem dX7_skipBlanks_12 : decode cX7_skipBlanks 12 = .ok (.getfield 9, 3) := by decide +kernel
theorem dX7_skipBlanks_15 : decode cX7_skipBlanks 15 = .ok (.aload_n 0, 1) := by decide +kernel
theorem dX7_skipBlanks_16 : decode cX7_skipBlanks 16 = .ok (.getfield 32, 3) := by decide +kernel
theorem dX7_skipBlanks_19 : decode cX7_skipBlanks 19 = .ok (.baload, 1) := by decide +kernel
theorem dX7_skipBlanks_20 : decode cX7_skipBlanks 20 = .ok (.bipush 32, 2) := by decide +kernel
theorem dX7_skipBlanks_22 : decode cX7_skipBlanks 22 = .ok (.if_icmp .ne 16, 3) := by decide +kernel
theorem dX7_skipBlanks_25 : decode cX7_skipBlanks 25 = .ok (.aload_n 0, 1) := by decide +kernel
theorem dX7_skipBlanks_26 : decode cX7_skipBlanks 26 = .ok (.dup, 1) := by decide +kernel
theorem dX7_skipBlanks_27 : decode cX7_skipBlanks 27 = .ok (.getfield 32, 3) := by decide +kernel
theorem dX7_skipBlanks_30 : decode cX7_skipBlanks 30 = .ok (.iconst 1, 1) := by decide +kernel
theorem dX7_skipBlanks_31 : decode cX7_skipBlanks 31 = .ok (.iadd, 1) := by decide +kernel
theorem dX7_skipBlanks_32 : decode cX7_skipBlanks 32 = .ok (.putfield 32, 3) := by decide +kernel
theorem dX7_skipBlanks_35 : decode cX7_skipBlanks 35 = .ok (.goto (-35), 3) := by decide +kernel
theorem dX7_skipBlanks_38 : decode cX7_skipBlanks 38 = .ok (.return_, 1) := by decide +kernel
theorem dX7_skipLetters_0 : decode cX7_skipLetters 0 = .ok (.aload_n 0, 1) := by decide +kernel
theorem dX7_skipLetters_1 : decode cX7_skipLetters 1 = .ok (.getfield 32, 3) := by decide +kernel
theorem dX7_skipLetters_4 : decode cX7_skipLetters 4 = .ok (.aload_n 0, 1) := by decide +kernel
theorem dX7_skipLetters_5 : decode cX7_skipLetters 5 = .ok (.getfield 29, 3) := by decide +kernel
theorem dX7_skipLetters_8 : decode cX7_skipLetters 8 = .ok (.if_icmp .ge 44, 3) := by decide +kernel
theorem dX7_skipLetters_11 : decode cX7_skipLetters 11 = .ok (.aload_n 0, 1) := by decide +kernel
theorem dX7_skipLetters_12 : decode cX7_skipLetters 12 = .ok (.getfield 9, 3) := by decide +kernel
theorem dX7_skipLetters_15 : decode cX7_skipLetters 15 = .ok (.aload_n 0, 1) := by decide +kernel
theorem dX7_skipLetters_16 : decode cX7_skipLetters 16 = .ok (.getfield 32, 3) := by decide +kernel
theorem dX7_skipLetters_19 : decode cX7_skipLetters 19 = .ok (.baload, 1) := by decide +kernel
theorem dX7_skipLetters_20 : decode cX7_skipLetters 20 = .ok (.bipush 97, 2) := by decide +kernel
theorem dX7_skipLetters_22 : decode cX7_skipLetters 22 = .ok (.if_icmp .lt 30, 3) := by decide +kernel
theorem dX7_skipLetters_25 : decode cX7_skipLetters 25 = .ok (.aload_n 0, 1) := by decide +kernel
theorem dX7_skipLetters_26 : decode cX7_skipLetters 26 = .ok (.getfield 9, 3) := by decide +kernel
theorem dX7_skipLetters_29 : decode cX7_skipLetters 29 = .ok (.aload_n 0, 1) := by decide +kernel
theorem dX7_skipLetters_30 : decode cX7_skipLetters 30 = .ok (.getfield 32, 3) := by decide +kernel
theorem dX7_skipLetters_33 : decode cX7_skipLetters 33 = .ok (.baload, 1) := by decide +kernel
theorem dX7_skipLetters_34 : decode cX7_skipLetters 34 = .ok (.bipush 122, 2) := by decide +kernel
theorem dX7_skipLetters_36 : decode cX7_skipLetters 36 = .ok (.if_icmp .gt 16, 3) := by decide +kernel
theorem dX7_skipLetters_39 : decode cX7_skipLetters 39 = .ok (.aload_n 0, 1) := by decide +kernel
theorem dX7_skipLetters_40 : decode cX7_skipLetters 40 = .ok (.dup, 1) := by decide +kernel
theorem dX7_skipLetters_41 : decode cX7_skipLetters 41 = .ok (.getfield 32, 3) := by decide +kernel
theorem dX7_skipLetters_44 : decode cX7_skipLetters 44 = .ok (.iconst 1, 1) := by decide +kernel
theorem dX7_skipLetters_45 : decode cX7_skipLetters 45 = .ok (.iadd, 1) := by decide +kernel
theorem dX7_skipLetters_46 : decode cX7_skipLetters 46 = .ok (.putfield 32, 3) := by decide +kernel
theorem dX7_skipLetters_49 : decode cX7_skipLetters 49 = .ok (.goto (-49), 3) := by decide +kernel
theorem dX7_skipLetters_52 : decode cX7_skipLetters 52 = .ok (.return_, 1) := by decide +kernel
set_option maxRecDepth 20000 in
theorem ggX7_kindOf_J0_length_8abf5 : GoodIn wsX7_kindOf wsJ0_length_8abf5 := goodIn_r _ [5, 6, 7, 8, 9, 4, 10, 11, 12] (by decide +kernel) (by decide +kernel)
set_option maxRecDepth 20000 in
theorem gX7_kindOf_J0_length_8abf5 : GoodIn wsX7_kindOf (wsV RX7 91 RJ0 yJ0_length_8abf5 wsJ0_length_8abf5) := goodIn_app (goodIn_of _ (by decide +kernel)) ggX7_kindOf_J0_length_8abf5
set_option maxRecDepth 20000 in
theorem ggX7_kindOf_J0_charAt_5068e : GoodIn wsX7_kindOf wsJ0_charAt_5068e := goodIn_r _ [16, 6, 17, 18, 19, 4, 20, 11, 12, 21, 22, 23, 24, 25, 26, 27, 28, 29, 30, 31, 32, 33, 34, 35, 36, 37, 38, 39, 40, 41, 42, 43, 44, 45, 46, 47, 48, 49] (by decide +kernel) (by decide +kernel)
set_option maxRecDepth 20000 in
theorem gX7_kindOf_J0_charAt_5068e : GoodIn wsX7_kindOf (wsV RX7 95 RJ0 yJ0_charAt_5068e wsJ0_charAt_5068e) := goodIn_app (goodIn_of _ (by decide +kernel)) ggX7_kindOf_J0_charAt_5068e
set_option maxRecDepth 20000 in
theorem ggX7_kindOf_X7_isSame : GoodIn wsX7_kindOf wsX7_isSame := goodIn_r _ [54, 55, 56, 13, 14, 15, 4, 16, 6, 17, 18, 19, 20, 11, 12, 21, 22, 23, 24, 25, 26, 27, 28, 29, 30, 31, 32, 33, 34, 35, 36, 37, 38, 39, 40, 41, 42, 43, 44, 45, 46, 47, 48, 49, 57, 58, 59, 60, 61, 62] (by decide +kernel) (by decide +kernel)
set_option maxRecDepth 20000 in
theorem gX7_kindOf_X7_isSame : GoodIn wsX7_kindOf (wsV RX7 99 RX7 yX7_isSame wsX7_isSame) := goodIn_app (goodIn_of _ (by decide +kernel)) ggX7_kindOf_X7_isSame
theorem dX7_kindOf_0 : decode cX7_kindOf 0 = .ok (.iconst 0, 1) := by decide +kernel
theorem dX7_kindOf_1 : decode cX7_kindOf 1 = .ok (.istore_n 3, 1) := by decide +kernel
theorem dX7_kindOf_2 : decode cX7_kindOf 2 = .ok (.iconst 0, 1) := by decide +kernel
theorem dX7_kindOf_3 : decode cX7_kindOf 3 = .ok (.istore 4, 2) := by decide +kernel
theorem dX7_kindOf_5 : decode cX7_kindOf 5 = .ok (.iconst 0, 1) := by decide +kernel
theorem dX7_kindOf_6 : decode cX7_kindOf 6 = .ok (.istore 5, 2) := by decide +kernel
theorem dX7_kindOf_8 : decode cX7_kindOf 8 = .ok (.iload 5, 2) := by decide +kernel
theorem dX7_kindOf_10 : decode cX7_kindOf 10 = .ok (.aload_n 1, 1) := by decide +kernel
theorem dX7_kindOf_11 : decode cX7_kindOf 11 = .ok (.invokevirtual 91, 3) := by decide +kernel
theorem dX7_kindOf_14 : decode cX7_kindOf 14 = .ok (.if_icmp .gt 53, 3) := by decide +kernel
theorem dX7_kindOf_17 : decode cX7_kindOf 17 = .ok (.iload 5, 2) := by decide +kernel
theorem dX7_kindOf_19 : decode cX7_kindOf 19 = .ok (.aload_n 1, 1) := by decide +kernel
theorem dX7_kindOf_20 : decode cX7_kindOf 20 = .ok (.invokevirtual 91, 3) := by decide +kernel
theorem dX7_kindOf_23 : decode cX7_kindOf 23 = .ok (.if_icmp .eq 14, 3) := by decide +kernel
theorem dX7_kindOf_26 : decode cX7_kindOf 26 = .ok (.aload_n 1, 1) := by decide +kernel
theorem dX7_kindOf_27 : decode cX7_kindOf 27 = .ok (.iload 5, 2) := by decide +kernel
theorem dX7_kindOf_29 : decode cX7_kindOf 29 = .ok (.invokevirtual 95, 3) := by decide +kernel
theorem dX7_kindOf_32 : decode cX7_kindOf 32 = .ok (.bipush 32, 2) := by decide +kernel
theorem dX7_kindOf_34 : decode cX7_kindOf 34 = .ok (.if_icmp .ne 27, 3) := by decide +kernel
theorem dX7_kindOf_37 : decode cX7_kindOf 37 = .ok (.aload_n 0, 1) := by decide +kernel
theorem dX7_kindOf_38 : decode cX7_kindOf 38 = .ok (.aload_n 1, 1) := by decide +kernel
theorem dX7_kindOf_39 : decode cX7_kindOf 39 = .ok (.iload 4, 2) := by decide +kernel
theorem dX7_kindOf_41 : decode cX7_kindOf 41 = .ok (.iload 5, 2) := by decide +kernel
theorem dX7_kindOf_43 : decode cX7_kindOf 43 = .ok (.iload_n 2, 1) := by decide +kernel
theorem dX7_kindOf_44 : decode cX7_kindOf 44 = .ok (.invokevirtual 99, 3) := by decide +kernel
theorem dX7_kindOf_47 : decode cX7_kindOf 47 = .ok (.ifCond .eq 5, 3) := by decide +kernel
theorem dX7_kindOf_50 : decode cX7_kindOf 50 = .ok (.iload_n 3, 1) := by decide +kernel
theorem dX7_kindOf_51 : decode cX7_kindOf 51 = .ok (.ireturn, 1) := by decide +kernel
theorem dX7_kindOf_52 : decode cX7_kindOf 52 = .ok (.iinc 3 1, 3) := by decide +kernel
theorem dX7_kindOf_55 : decode cX7_kindOf 55 = .ok (.iload 5, 2) := by decide +kernel
theorem dX7_kindOf_57 : decode cX7_kindOf 57 = .ok (.iconst 1, 1) := by decide +kernel
theorem dX7_kindOf_58 : decode cX7_kindOf 58 = .ok (.iadd, 1) := by decide +kernel
theorem dX7_kindOf_59 : decode cX7_kindOf 59 = .ok (.istore 4, 2) := by decide +kernel
theorem dX7_kindOf_61 : decode cX7_kindOf 61 = .ok (.iinc 5 1, 3) := by decide +kernel
theorem dX7_kindOf_64 : decode cX7_kindOf 64 = .ok (.goto (-56), 3) := by decide +kernel
theorem dX7_kindOf_67 : decode cX7_kindOf 67 = .ok (.iconst (-1), 1) := by decide +kernel
theorem dX7_kindOf_68 : decode cX7_kindOf 68 = .ok (.ireturn, 1) := by decide +kernel
set_option maxRecDepth 20000 in
theorem ggX7_isSame_J0_charAt_5068e : GoodIn wsX7_isSame wsJ0_charAt_5068e := goodIn_r _ [7, 8, 9, 10, 11, 6, 12, 13, 14, 15, 16, 17, 18, 19, 20, 21, 22, 23, 24, 25, 26, 27, 28, 29, 30, 31, 32, 33, 34, 35, 36, 37, 38, 39, 40, 41, 42, 43] (by decide +kernel) (by decide +kernel)
set_option maxRecDepth 20000 in
theorem gX7_isSame_J0_charAt_5068e : GoodIn wsX7_isSame (wsV RX7 95 RJ0 yJ0_charAt_5068e wsJ0_charAt_5068e) := goodIn_app (goodIn_of _ (by decide +kernel)) ggX7_isSame_J0_charAt_5068e
theorem dX7_isSame_0 : decode cX7_isSame 0 = .ok (.iload_n 3, 1) := by decide +kernel
theorem dX7_isSame_1 : decode cX7_isSame 1 = .ok (.iload_n 2, 1) := by decide +kernel
theorem dX7_isSame_2 : decode cX7_isSame 2 = .ok (.isub, 1) := by decide +kernel
theorem dX7_isSame_3 : decode cX7_isSame 3 = .ok (.aload_n 0, 1) := by decide +kernel
theorem dX7_isSame_4 : decode cX7_isSame 4 = .ok (.getfield 32, 3) := by decide +kernel
theorem dX7_isSame_7 : decode cX7_isSame 7 = .ok (.iload 4, 2) := by decide +kernel
theorem dX7_isSame_9 : decode cX7_isSame 9 = .ok (.isub, 1) := by decide +kernel
theorem dX7_isSame_10 : decode cX7_isSame 10 = .ok (.if_icmp .eq 5, 3) := by decide +kernel
theorem dX7_isSame_13 : decode cX7_isSame 13 = .ok (.iconst 0, 1) := by decide +kernel
theorem dX7_isSame_14 : decode cX7_isSame 14 = .ok (.ireturn, 1) := by decide +kernel
theorem dX7_isSame_15 : decode cX7_isSame 15 = .ok (.iconst 0, 1) := by decide +kernel
theorem dX7_isSame_16 : decode cX7_isSame 16 = .ok (.istore 5, 2) := by decide +kernel
theorem dX7_isSame_18 : decode cX7_isSame 18 = .ok (.iload 5, 2) := by decide +kernel
theorem dX7_isSame_20 : decode cX7_isSame 20 = .ok (.iload_n 3, 1) := by decide +kernel
theorem dX7_isSame_21 : decode cX7_isSame 21 = .ok (.iload_n 2, 1) := by decide +kernel
theorem dX7_isSame_22 : decode cX7_isSame 22 = .ok (.isub, 1) := by decide +kernel
theorem dX7_isSame_23 : decode cX7_isSame 23 = .ok (.if_icmp .ge 32, 3) := by decide +kernel
theorem dX7_isSame_26 : decode cX7_isSame 26 = .ok (.aload_n 1, 1) := by decide +kernel
theorem dX7_isSame_27 : decode cX7_isSame 27 = .ok (.iload_n 2, 1) := by decide +kernel
theorem dX7_isSame_28 : decode cX7_isSame 28 = .ok (.iload 5, 2) := by decide +kernel
theorem dX7_isSame_30 : decode cX7_isSame 30 = .ok (.iadd, 1) := by decide +kernel
theorem dX7_isSame_31 : decode cX7_isSame 31 = .ok (.invokevirtual 95, 3) := by decide +kernel
theorem dX7_isSame_34 : decode cX7_isSame 34 = .ok (.aload_n 0, 1) := by decide +kernel
theorem dX7_isSame_35 : decode cX7_isSame 35 = .ok (.getfield 9, 3) := by decide +kernel
theorem dX7_isSame_38 : decode cX7_isSame 38 = .ok (.iload 4, 2) := by decide +kernel
theorem dX7_isSame_40 : decode cX7_isSame 40 = .ok (.iload 5, 2) := by decide +kernel
theorem dX7_isSame_42 : decode cX7_isSame 42 = .ok (.iadd, 1) := by decide +kernel
theorem dX7_isSame_43 : decode cX7_isSame 43 = .ok (.baload, 1) := by decide +kernel
theorem dX7_isSame_44 : decode cX7_isSame 44 = .ok (.if_icmp .eq 5, 3) := by decide +kernel
theorem dX7_isSame_47 : decode cX7_isSame 47 = .ok (.iconst 0, 1) := by decide +kernel
theorem dX7_isSame_48 : decode cX7_isSame 48 = .ok (.ireturn, 1) := by decide +kernel
theorem dX7_isSame_49 : decode cX7_isSame 49 = .ok (.iinc 5 1, 3) := by decide +kernel
theorem dX7_isSame_52 : decode cX7_isSame 52 = .ok (.goto (-34), 3) := by decide +kernel
theorem dX7_isSame_55 : decode cX7_isSame 55 = .ok (.iconst 1, 1) := by decide +kernel
theorem dX7_isSame_56 : decode cX7_isSame 56 = .ok (.ireturn, 1) := by decide +kernel
set_option maxRecDepth 20000 in
theorem ggX8_init_X4_init : GoodIn wsX8_init wsX4_init := goodIn_r _ [21, 22, 2, 3, 23, 24, 25, 44, 45, 46] (by decide +kernel) (by decide +kernel)
set_option maxRecDepth 20000 in
theorem gX8_init_X4_init_n9 : GoodIn wsX8_init (wsX4_init) := ggX8_init_X4_init
set_option maxRecDepth 20000 in
theorem ggX8_init_X0_init : GoodIn wsX8_init wsX0_init := goodIn_r _ [27, 28, 2, 3, 23, 29, 51] (by decide +kernel) (by decide +kernel)
set_option maxRecDepth 20000 in
theorem gX8_init_X0_init_n18 : GoodIn wsX8_init (wsX0_init) := ggX8_init_X0_init
set_option maxRecDepth 20000 in
theorem ggX8_init_X2_init : GoodIn wsX8_init wsX2_init := goodIn_r _ [31, 32, 2, 3, 23, 33, 34, 35, 36, 37, 38, 52, 53, 54, 55, 56, 57, 58] (by decide +kernel) (by decide +kernel)
set_option maxRecDepth 20000 in
theorem gX8_init_X2_init_n25 : GoodIn wsX8_init (wsX2_init) := ggX8_init_X2_init
set_option maxRecDepth 20000 in
theorem ggX8_init_X3_init : GoodIn wsX8_init wsX3_init := goodIn_r _ [40, 41, 2, 3, 23, 42, 43, 59, 60] (by decide +kernel) (by decide +kernel)
set_option maxRecDepth 20000 in
theorem gX8_init_X3_init_n32 : GoodIn wsX8_init (wsX3_init) := ggX8_init_X3_init
theorem dX8_init_0 : decode cX8_init 0 = .ok (.aload_n 0, 1) := by decide +kernel
theorem dX8_init_1 : decode cX8_init 1 = .ok (.invokespecial 1, 3) := by decide +kernel
theorem dX8_init_4 : decode cX8_init 4 = .ok (.aload_n 0, 1) := by decide +kernel
theorem dX8_init_5 : decode cX8_init 5 = .ok (.new 7, 3) := by decide +kernel
theorem dX8_init_8 : decode cX8_init 8 = .ok (.dup, 1) := by decide +kernel
theorem dX8_init_9 : decode cX8_init 9 = .ok (.invokespecial 9, 3) := by decide +kernel
theorem dX8_init_12 : decode cX8_init 12 = .ok (.putfield 10, 3) := by decide +kernel
theorem dX8_init_15 : decode cX8_init 15 = .ok (.aload_n 0, 1) := by decide +kernel
theorem dX8_init_16 : decode cX8_init 16 = .ok (.new 16, 3) := by decide +kernel
theorem dX8_init_19 : decode cX8_init 19 = .ok (.dup, 1) := by decide +kernel
theorem dX8_init_20 : decode cX8_init 20 = .ok (.invokespecial 18, 3) := by decide +kernel
theorem dX8_init_23 : decode cX8_init 23 = .ok (.putfield 19, 3) := by decide +kernel
theorem dX8_init_26 : decode cX8_init 26 = .ok (.aload_n 0, 1) := by decide +kernel
theorem dX8_init_27 : decode cX8_init 27 = .ok (.new 23, 3) := by decide +kernel
theorem dX8_init_30 : decode cX8_init 30 = .ok (.dup, 1) := by decide +kernel
theorem dX8_init_31 : decode cX8_init 31 = .ok (.invokespecial 25, 3) := by decide +kernel
theorem dX8_init_34 : decode cX8_init 34 = .ok (.putfield 26, 3) := by decide +kernel
theorem dX8_init_37 : decode cX8_init 37 = .ok (.aload_n 0, 1) := by decide +kernel
theorem dX8_init_38 : decode cX8_init 38 = .ok (.new 30, 3) := by decide +kernel
theorem dX8_init_41 : decode cX8_init 41 = .ok (.dup, 1) := by decide +kernel
theorem dX8_init_42 : decode cX8_init 42 = .ok (.invokespecial 32, 3) := by decide +kernel
theorem dX8_init_45 : decode cX8_init 45 = .ok (.putfield 33, 3) := by decide +kernel
theorem dX8_init_48 : decode cX8_init 48 = .ok (.return_, 1) := by decide +kernel
set_option maxRecDepth 20000 in
theorem ggX8_begin_X4_begin : GoodIn wsX8_begin wsX4_begin := goodIn_r _ [8, 9, 10, 11, 12, 13, 14, 15, 16, 17, 39, 40, 41, 42, 43, 44, 45, 46] (by decide +kernel) (by decide +kernel)
set_option maxRecDepth 20000 in
theorem gX8_begin_X4_begin : GoodIn wsX8_begin (wsV RX8 37 RX4 yX4_begin wsX4_begin) := goodIn_app (goodIn_of _ (by decide +kernel)) ggX8_begin_X4_begin
set_option maxRecDepth 20000 in
theorem ggX8_begin_X2_forget : GoodIn wsX8_begin wsX2_forget := goodIn_r _ [22, 23, 24, 25, 26, 27, 47, 48, 49, 50, 51, 52, 53] (by decide +kernel) (by decide +kernel)
set_option maxRecDepth 20000 in
theorem gX8_begin_X2_forget : GoodIn wsX8_begin (wsV RX8 41 RX2 yX2_forget wsX2_forget) := goodIn_app (goodIn_of _ (by decide +kernel)) ggX8_begin_X2_forget
set_option maxRecDepth 20000 in
theorem ggX8_begin_X3_clear : GoodIn wsX8_begin wsX3_clear := goodIn_r _ [32, 33, 34, 15, 16, 17, 54, 55] (by decide +kernel) (by decide +kernel)
set_option maxRecDepth 20000 in
theorem gX8_begin_X3_clear : GoodIn wsX8_begin (wsV RX8 44 RX3 yX3_clear wsX3_clear) := goodIn_app (goodIn_of _ (by decide +kernel)) ggX8_begin_X3_clear
theorem dX8_begin_0 : decode cX8_begin 0 = .ok (.aload_n 0, 1) := by decide +kernel
theorem dX8_begin_1 : decode cX8_begin 1 = .ok (.getfield 10, 3) := by decide +kernel
theorem dX8_begin_4 : decode cX8_begin 4 = .ok (.aload_n 1, 1) := by decide +kernel
theorem dX8_begin_5 : decode cX8_begin 5 = .ok (.invokevirtual 37, 3) := by decide +kernel
theorem dX8_begin_8 : decode cX8_begin 8 = .ok (.aload_n 0, 1) := by decide +kernel
theorem dX8_begin_9 : decode cX8_begin 9 = .ok (.getfield 26, 3) := by decide +kernel
theorem dX8_begin_12 : decode cX8_begin 12 = .ok (.invokevirtual 41, 3) := by decide +kernel
theorem dX8_begin_15 : decode cX8_begin 15 = .ok (.aload_n 0, 1) := by decide +kernel
theorem dX8_begin_16 : decode cX8_begin 16 = .ok (.getfield 33, 3) := by decide +kernel
theorem dX8_begin_19 : decode cX8_begin 19 = .ok (.invokevirtual 44, 3) := by decide +kernel
theorem dX8_begin_22 : decode cX8_begin 22 = .ok (.return_, 1) := by decide +kernel
set_option maxRecDepth 20000 in
theorem ggX8_take_X4_take : GoodIn wsX8_take wsX4_take := goodIn_r _ [10, 11, 12, 13, 14, 15, 16, 51, 52, 53] (by decide +kernel) (by decide +kernel)
set_option maxRecDepth 20000 in
theorem gX8_take_X4_take : GoodIn wsX8_take (wsV RX8 47 RX4 yX4_take wsX4_take) := goodIn_app (goodIn_of _ (by decide +kernel)) ggX8_take_X4_take
set_option maxRecDepth 20000 in
theorem ggX8_take_X0_take : GoodIn wsX8_take wsX0_take := goodIn_r _ [21, 22, 23, 13, 14, 15, 24, 25, 26, 54] (by decide +kernel) (by decide +kernel)
set_option maxRecDepth 20000 in
theorem gX8_take_X0_take : GoodIn wsX8_take (wsV RX8 55 RX0 yX0_take wsX0_take) := goodIn_app (goodIn_of _ (by decide +kernel)) ggX8_take_X0_take
set_option maxRecDepth 20000 in
theorem ggX8_take_X2_take : GoodIn wsX8_take wsX2_take := goodIn_r _ [31, 32, 33, 13, 14, 15, 34, 35, 36, 37, 38, 39, 55, 56, 57, 58, 59, 60, 61] (by decide +kernel) (by decide +kernel)
set_option maxRecDepth 20000 in
theorem gX8_take_X2_take : GoodIn wsX8_take (wsV RX8 58 RX2 yX2_take wsX2_take) := goodIn_app (goodIn_of _ (by decide +kernel)) ggX8_take_X2_take
set_option maxRecDepth 20000 in
theorem ggX8_take_X3_take : GoodIn wsX8_take wsX3_take := goodIn_r _ [44, 45, 46, 13, 14, 15, 62, 63] (by decide +kernel) (by decide +kernel)
set_option maxRecDepth 20000 in
theorem gX8_take_X3_take : GoodIn wsX8_take (wsV RX8 61 RX3 yX3_take wsX3_take) := goodIn_app (goodIn_of _ (by decide +kernel)) ggX8_take_X3_take
theorem dX8_take_0 : decode cX8_take 0 = .ok (.aload_n 0, 1) := by decide +kernel
theorem dX8_take_1 : decode cX8_take 1 = .ok (.getfield 10, 3) := by decide +kernel
theorem dX8_take_4 : decode cX8_take 4 = .ok (.aload_n 1, 1) := by decide +kernel
theorem dX8_take_5 : decode cX8_take 5 = .ok (.getfield 10, 3) := by decide +kernel
theorem dX8_take_8 : decode cX8_take 8 = .ok (.invokevirtual 47, 3) := by decide +kernel
theorem dX8_take_11 : decode cX8_take 11 = .ok (.aload_n 0, 1) := by decide +kernel
theorem dX8_take_12 : decode cX8_take 12 = .ok (.getfield 19, 3) := by decide +kernel
theorem dX8_take_15 : decode cX8_take 15 = .ok (.aload_n 1, 1) := by decide +kernel
theorem dX8_take_16 : decode cX8_take 16 = .ok (.getfield 19, 3) := by decide +kernel
theorem dX8_take_19 : decode cX8_take 19 = .ok (.aload_n 1, 1) := by decide +kernel
theorem dX8_take_20 : decode cX8_take 20 = .ok (.getfield 10, 3) := by decide +kernel
theorem dX8_take_23 : decode cX8_take 23 = .ok (.getfield 51, 3) := by decide +kernel
theorem dX8_take_26 : decode cX8_take 26 = .ok (.invokevirtual 55, 3) := by decide +kernel
theorem dX8_take_29 : decode cX8_take 29 = .ok (.aload_n 0, 1) := by decide +kernel
theorem dX8_take_30 : decode cX8_take 30 = .ok (.getfield 26, 3) := by decide +kernel
theorem dX8_take_33 : decode cX8_take 33 = .ok (.aload_n 1, 1) := by decide +kernel
theorem dX8_take_34 : decode cX8_take 34 = .ok (.getfield 26, 3) := by decide +kernel
theorem dX8_take_37 : decode cX8_take 37 = .ok (.invokevirtual 58, 3) := by decide +kernel
theorem dX8_take_40 : decode cX8_take 40 = .ok (.aload_n 0, 1) := by decide +kernel
theorem dX8_take_41 : decode cX8_take 41 = .ok (.getfield 33, 3) := by decide +kernel
theorem dX8_take_44 : decode cX8_take 44 = .ok (.aload_n 1, 1) := by decide +kernel
theorem dX8_take_45 : decode cX8_take 45 = .ok (.getfield 33, 3) := by decide +kernel
theorem dX8_take_48 : decode cX8_take 48 = .ok (.invokevirtual 61, 3) := by decide +kernel
theorem dX8_take_51 : decode cX8_take 51 = .ok (.return_, 1) := by decide +kernel
theorem dX9_init_0 : decode cX9_init 0 = .ok (.aload_n 0, 1) := by decide +kernel
theorem dX9_init_1 : decode cX9_init 1 = .ok (.invokespecial 1, 3) := by decide +kernel
theorem dX9_init_4 : decode cX9_init 4 = .ok (.return_, 1) := by decide +kernel
set_option maxRecDepth 20000 in
theorem ggX10_init_X7_init : GoodIn wsX10_init wsX7_init := goodIn_r _ [36, 37, 2, 3, 4, 38, 39, 30, 40, 133, 134, 135, 136, 137, 138] (by decide +kernel) (by decide +kernel)
set_option maxRecDepth 20000 in
theorem gX10_init_X7_init_n15 : GoodIn wsX10_init (wsX7_init) := ggX10_init_X7_init
set_option maxRecDepth 20000 in
theorem ggX10_init_X6_init : GoodIn wsX10_init wsX6_init := goodIn_r _ [43, 44, 30, 45, 46, 47, 48, 49, 50, 51, 52, 2, 3, 53, 54, 55, 12, 56, 57, 139, 140, 141, 142, 143] (by decide +kernel) (by decide +kernel)
set_option maxRecDepth 20000 in
theorem gX10_init_X6_init : GoodIn wsX10_init (wsX6_init) := ggX10_init_X6_init
set_option maxRecDepth 20000 in
theorem ggX10_init_X8_init : GoodIn wsX10_init wsX8_init := goodIn_r _ [59, 60, 2, 3, 61, 23, 24, 62, 63, 64, 65, 66, 67, 68, 69, 70, 71, 72, 73, 74, 75, 76, 77, 30, 78, 79, 80, 81, 82, 83, 84, 85, 86, 87, 88, 89, 90, 91, 92, 93, 94, 95, 96, 97, 148, 149, 150, 144, 145, 146, 147, 159, 160, 161, 162, 163, 164, 165, 166, 167, 168] (by decide +kernel) (by decide +kernel)
set_option maxRecDepth 20000 in
theorem gX10_init_X8_init_n38 : GoodIn wsX10_init (wsX8_init) := ggX10_init_X8_init
set_option maxRecDepth 20000 in
theorem ggX10_init_X4_init : GoodIn wsX10_init wsX4_init := goodIn_r _ [76, 77, 2, 3, 30, 78, 79, 148, 149, 150] (by decide +kernel) (by decide +kernel)
set_option maxRecDepth 20000 in
theorem gX10_init_X4_init_n49 : GoodIn wsX10_init (wsX4_init) := ggX10_init_X4_init
set_option maxRecDepth 20000 in
theorem ggX10_init_X1_init : GoodIn wsX10_init wsX1_init := goodIn_r _ [99, 100, 2, 3, 30, 101, 102, 103, 151, 152, 153, 154, 155] (by decide +kernel) (by decide +kernel)
set_option maxRecDepth 20000 in
theorem gX10_init_X1_init_n56 : GoodIn wsX10_init (wsX1_init) := ggX10_init_X1_init
set_option maxRecDepth 20000 in
theorem ggX10_init_X5_init : GoodIn wsX10_init wsX5_init := goodIn_r _ [105, 30, 106, 107, 49, 50, 51, 52, 2, 3, 156, 157, 158] (by decide +kernel) (by decide +kernel)
set_option maxRecDepth 20000 in
theorem gX10_init_X5_init_n65 : GoodIn wsX10_init (wsX5_init) := ggX10_init_X5_init
set_option maxRecDepth 20000 in
theorem ggX10_init_X4_begin : GoodIn wsX10_init wsX4_begin := goodIn_r _ [111, 112, 78, 113, 114, 115, 116, 117, 118, 119, 148, 149, 150, 139, 140, 141, 142, 143] (by decide +kernel) (by decide +kernel)
set_option maxRecDepth 20000 in
theorem gX10_init_X4_begin : GoodIn wsX10_init (wsV RX10 69 RX4 yX4_begin wsX4_begin) := goodIn_app (goodIn_of _ (by decide +kernel)) ggX10_init_X4_begin
theorem dX10_init_0 : decode cX10_init 0 = .ok (.aload_n 0, 1) := by decide +kernel
theorem dX10_init_1 : decode cX10_init 1 = .ok (.invokespecial 3, 3) := by decide +kernel
theorem dX10_init_4 : decode cX10_init 4 = .ok (.aload_n 0, 1) := by decide +kernel
theorem dX10_init_5 : decode cX10_init 5 = .ok (.sipush 500, 3) := by decide +kernel
theorem dX10_init_8 : decode cX10_init 8 = .ok (.newarray .byte, 2) := by decide +kernel
theorem dX10_init_10 : decode cX10_init 10 = .ok (.putfield 9, 3) := by decide +kernel
theorem dX10_init_13 : decode cX10_init 13 = .ok (.aload_n 0, 1) := by decide +kernel
theorem dX10_init_14 : decode cX10_init 14 = .ok (.new 13, 3) := by decide +kernel
theorem dX10_init_17 : decode cX10_init 17 = .ok (.dup, 1) := by decide +kernel
theorem dX10_init_18 : decode cX10_init 18 = .ok (.invokespecial 15, 3) := by decide +kernel
theorem dX10_init_21 : decode cX10_init 21 = .ok (.putfield 16, 3) := by decide +kernel
theorem dX10_init_24 : decode cX10_init 24 = .ok (.aload_n 0, 1) := by decide +kernel
theorem dX10_init_25 : decode cX10_init 25 = .ok (.new 20, 3) := by decide +kernel
theorem dX10_init_28 : decode cX10_init 28 = .ok (.dup, 1) := by decide +kernel
theorem dX10_init_29 : decode cX10_init 29 = .ok (.invokespecial 22, 3) := by decide +kernel
theorem dX10_init_32 : decode cX10_init 32 = .ok (.putfield 23, 3) := by decide +kernel
theorem dX10_init_35 : decode cX10_init 35 = .ok (.aload_n 0, 1) := by decide +kernel
theorem dX10_init_36 : decode cX10_init 36 = .ok (.new 20, 3) := by decide +kernel
theorem dX10_init_39 : decode cX10_init 39 = .ok (.dup, 1) := by decide +kernel
theorem dX10_init_40 : decode cX10_init 40 = .ok (.invokespecial 22, 3) := by decide +kernel
theorem dX10_init_43 : decode cX10_init 43 = .ok (.putfield 27, 3) := by decide +kernel
theorem dX10_init_46 : decode cX10_init 46 = .ok (.aload_n 0, 1) := by decide +kernel
theorem dX10_init_47 : decode cX10_init 47 = .ok (.bipush 7, 2) := by decide +kernel
theorem dX10_init_49 : decode cX10_init 49 = .ok (.anewarray 30, 3) := by decide +kernel
theorem dX10_init_52 : decode cX10_init 52 = .ok (.putfield 32, 3) := by decide +kernel
theorem dX10_init_55 : decode cX10_init 55 = .ok (.aload_n 0, 1) := by decide +kernel
theorem dX10_init_56 : decode cX10_init 56 = .ok (.new 36, 3) := by decide +kernel
theorem dX10_init_59 : decode cX10_init 59 = .ok (.dup, 1) := by decide +kernel
theorem dX10_init_60 : decode cX10_init 60 = .ok (.invokespecial 38, 3) := by decide +kernel
theorem dX10_init_63 : decode cX10_init 63 = .ok (.putfield 39, 3) := by decide +kernel
theorem dX10_init_66 : decode cX10_init 66 = .ok (.aload_n 0, 1) := by decide +kernel
theorem dX10_init_67 : decode cX10_init 67 = .ok (.iconst 3, 1) := by decide +kernel
theorem dX10_init_68 : decode cX10_init 68 = .ok (.anewarray 36, 3) := by decide +kernel
theorem dX10_init_71 : decode cX10_init 71 = .ok (.putfield 43, 3) := by decide +kernel
theorem dX10_init_74 : decode cX10_init 74 = .ok (.aload_n 0, 1) := by decide +kernel
theorem dX10_init_75 : decode cX10_init 75 = .ok (.new 47, 3) := by decide +kernel
theorem dX10_init_78 : decode cX10_init 78 = .ok (.dup, 1) := by decide +kernel
theorem dX10_init_79 : decode cX10_init 79 = .ok (.invokespecial 49, 3) := by decide +kernel
theorem dX10_init_82 : decode cX10_init 82 = .ok (.putfield 50, 3) := by decide +kernel
theorem dX10_init_85 : decode cX10_init 85 = .ok (.aload_n 0, 1) := by decide +kernel
theorem dX10_init_86 : decode cX10_init 86 = .ok (.new 54, 3) := by decide +kernel
theorem dX10_init_89 : decode cX10_init 89 = .ok (.dup, 1) := by decide +kernel
theorem dX10_init_90 : decode cX10_init 90 = .ok (.invokespecial 56, 3) := by decide +kernel
theorem dX10_init_93 : decode cX10_init 93 = .ok (.putfield 57, 3) := by decide +kernel
theorem dX10_init_96 : decode cX10_init 96 = .ok (.aload_n 0, 1) := by decide +kernel
theorem dX10_init_97 : decode cX10_init 97 = .ok (.iconst 3, 1) := by decide +kernel
theorem dX10_init_98 : decode cX10_init 98 = .ok (.newarray .int, 2) := by decide +kernel
theorem dX10_init_100 : decode cX10_init 100 = .ok (.putfield 61, 3) := by decide +kernel
theorem dX10_init_103 : decode cX10_init 103 = .ok (.iconst 0, 1) := by decide +kernel
theorem dX10_init_104 : decode cX10_init 104 = .ok (.istore_n 1, 1) := by decide +kernel
theorem dX10_init_105 : decode cX10_init 105 = .ok (.iload_n 1, 1) := by decide +kernel
theorem dX10_init_106 : decode cX10_init 106 = .ok (.aload_n 0, 1) := by decide +kernel
theorem dX10_init_107 : decode cX10_init 107 = .ok (.getfield 32, 3) := by decide +kernel
theorem dX10_init_110 : decode cX10_init 110 = .ok (.arraylength, 1) := by decide +kernel
theorem dX10_init_111 : decode cX10_init 111 = .ok (.if_icmp .ge 22, 3) := by decide +kernel
theorem dX10_init_114 : decode cX10_init 114 = .ok (.aload_n 0, 1) := by decide +kernel
theorem dX10_init_115 : decode cX10_init 115 = .ok (.getfield 32, 3) := by decide +kernel
theorem dX10_init_118 : decode cX10_init 118 = .ok (.iload_n 1, 1) := by decide +kernel
theorem dX10_init_119 : decode cX10_init 119 = .ok (.new 30, 3) := by decide +kernel
theorem dX10_init_122 : decode cX10_init 122 = .ok (.dup, 1) := by decide +kernel
theorem dX10_init_123 : decode cX10_init 123 = .ok (.invokespecial 65, 3) := by decide +kernel
theorem dX10_init_126 : decode cX10_init 126 = .ok (.aastore, 1) := by decide +kernel
theorem dX10_init_127 : decode cX10_init 127 = .ok (.iinc 1 1, 3) := by decide +kernel
theorem dX10_init_130 : decode cX10_init 130 = .ok (.goto (-25), 3) := by decide +kernel
theorem dX10_init_133 : decode cX10_init 133 = .ok (.aload_n 0, 1) := by decide +kernel
theorem dX10_init_134 : decode cX10_init 134 = .ok (.getfield 39, 3) := by decide +kernel
theorem dX10_init_137 : decode cX10_init 137 = .ok (.getfield 66, 3) := by decide +kernel
theorem dX10_init_140 : decode cX10_init 140 = .ok (.aload_n 0, 1) := by decide +kernel
theorem dX10_init_141 : decode cX10_init 141 = .ok (.getfield 23, 3) := by decide +kernel
theorem dX10_init_144 : decode cX10_init 144 = .ok (.invokevirtual 69, 3) := by decide +kernel
theorem dX10_init_147 : decode cX10_init 147 = .ok (.return_, 1) := by decide +kernel
set_option maxRecDepth 20000 in
theorem ggX10_feed_X10_putOnTape : GoodIn wsX10_feed wsX10_putOnTape := goodIn_r _ [6, 1, 7, 8, 9, 10, 11, 12, 13, 14, 15, 16, 17, 18, 19, 20] (by decide +kernel) (by decide +kernel)
set_option maxRecDepth 20000 in
theorem gX10_feed_X10_putOnTape : GoodIn wsX10_feed (wsV RX10 77 RX10 yX10_putOnTape wsX10_putOnTape) := goodIn_app (goodIn_of _ (by decide +kernel)) ggX10_feed_X10_putOnTape
theorem dX10_feed_0 : decode cX10_feed 0 = .ok (.aload_n 0, 1) := by decide +kernel
theorem dX10_feed_1 : decode cX10_feed 1 = .ok (.getfield 73, 3) := by decide +kernel
theorem dX10_feed_4 : decode cX10_feed 4 = .ok (.bipush 20, 2) := by decide +kernel
theorem dX10_feed_6 : decode cX10_feed 6 = .ok (.iadd, 1) := by decide +kernel
theorem dX10_feed_7 : decode cX10_feed 7 = .ok (.sipush 500, 3) := by decide +kernel
theorem dX10_feed_10 : decode cX10_feed 10 = .ok (.if_icmp .le 5, 3) := by decide +kernel
theorem dX10_feed_13 : decode cX10_feed 13 = .ok (.iconst (-1), 1) := by decide +kernel
theorem dX10_feed_14 : decode cX10_feed 14 = .ok (.ireturn, 1) := by decide +kernel
theorem dX10_feed_15 : decode cX10_feed 15 = .ok (.aload_n 0, 1) := by decide +kernel
theorem dX10_feed_16 : decode cX10_feed 16 = .ok (.iload_n 1, 1) := by decide +kernel
theorem dX10_feed_17 : decode cX10_feed 17 = .ok (.invokevirtual 77, 3) := by decide +kernel
theorem dX10_feed_20 : decode cX10_feed 20 = .ok (.aload_n 0, 1) := by decide +kernel
theorem dX10_feed_21 : decode cX10_feed 21 = .ok (.iload_n 2, 1) := by decide +kernel
theorem dX10_feed_22 : decode cX10_feed 22 = .ok (.invokevirtual 77, 3) := by decide +kernel
theorem dX10_feed_25 : decode cX10_feed 25 = .ok (.aload_n 0, 1) := by decide +kernel
theorem dX10_feed_26 : decode cX10_feed 26 = .ok (.iload_n 3, 1) := by decide +kernel
theorem dX10_feed_27 : decode cX10_feed 27 = .ok (.invokevirtual 77, 3) := by decide +kernel
theorem dX10_feed_30 : decode cX10_feed 30 = .ok (.aload_n 0, 1) := by decide +kernel
theorem dX10_feed_31 : decode cX10_feed 31 = .ok (.iload 4, 2) := by decide +kernel
theorem dX10_feed_33 : decode cX10_feed 33 = .ok (.invokevirtual 77, 3) := by decide +kernel
theorem dX10_feed_36 : decode cX10_feed 36 = .ok (.aload_n 0, 1) := by decide +kernel
theorem dX10_feed_37 : decode cX10_feed 37 = .ok (.iload 5, 2) := by decide +kernel
theorem dX10_feed_39 : decode cX10_feed 39 = .ok (.invokevirtual 77, 3) := by decide +kernel
theorem dX10_feed_42 : decode cX10_feed 42 = .ok (.aload_n 0, 1) := by decide +kernel
theorem dX10_feed_43 : decode cX10_feed 43 = .ok (.getfield 73, 3) := by decide +kernel
theorem dX10_feed_46 : decode cX10_feed 46 = .ok (.ireturn, 1) := by decide +kernel
theorem dX10_putOnTape_0 : decode cX10_putOnTape 0 = .ok (.bipush 24, 2) := by decide +kernel
theorem dX10_putOnTape_2 : decode cX10_putOnTape 2 = .ok (.istore_n 2, 1) := by decide +kernel
theorem dX10_putOnTape_3 : decode cX10_putOnTape 3 = .ok (.iload_n 2, 1) := by decide +kernel
theorem dX10_putOnTape_4 : decode cX10_putOnTape 4 = .ok (.ifCond .lt 44, 3) := by decide +kernel
theorem dX10_putOnTape_7 : decode cX10_putOnTape 7 = .ok (.aload_n 0, 1) := by decide +kernel
theorem dX10_putOnTape_8 : decode cX10_putOnTape 8 = .ok (.getfield 73, 3) := by decide +kernel
theorem dX10_putOnTape_11 : decode cX10_putOnTape 11 = .ok (.aload_n 0, 1) := by decide +kernel
theorem dX10_putOnTape_12 : decode cX10_putOnTape 12 = .ok (.getfield 9, 3) := by decide +kernel
theorem dX10_putOnTape_15 : decode cX10_putOnTape 15 = .ok (.arraylength, 1) := by decide +kernel
theorem dX10_putOnTape_16 : decode cX10_putOnTape 16 = .ok (.if_icmp .ge 32, 3) := by decide +kernel
theorem dX10_putOnTape_19 : decode cX10_putOnTape 19 = .ok (.aload_n 0, 1) := by decide +kernel
theorem dX10_putOnTape_20 : decode cX10_putOnTape 20 = .ok (.getfield 9, 3) := by decide +kernel
theorem dX10_putOnTape_23 : decode cX10_putOnTape 23 = .ok (.aload_n 0, 1) := by decide +kernel
theorem dX10_putOnTape_24 : decode cX10_putOnTape 24 = .ok (.getfield 73, 3) := by decide +kernel
theorem dX10_putOnTape_27 : decode cX10_putOnTape 27 = .ok (.iload_n 1, 1) := by decide +kernel
theorem dX10_putOnTape_28 : decode cX10_putOnTape 28 = .ok (.iload_n 2, 1) := by decide +kernel
theorem dX10_putOnTape_29 : decode cX10_putOnTape 29 = .ok (.iushr, 1) := by decide +kernel
theorem dX10_putOnTape_30 : decode cX10_putOnTape 30 = .ok (.i2b, 1) := by decide +kernel
theorem dX10_putOnTape_31 : decode cX10_putOnTape 31 = .ok (.bastore, 1) := by decide +kernel
theorem dX10_putOnTape_32 : decode cX10_putOnTape 32 = .ok (.aload_n 0, 1) := by decide +kernel
theorem dX10_putOnTape_33 : decode cX10_putOnTape 33 = .ok (.dup, 1) := by decide +kernel
theorem dX10_putOnTape_34 : decode cX10_putOnTape 34 = .ok (.getfield 73, 3) := by decide +kernel
theorem dX10_putOnTape_37 : decode cX10_putOnTape 37 = .ok (.iconst 1, 1) := by decide +kernel
theorem dX10_putOnTape_38 : decode cX10_putOnTape 38 = .ok (.iadd, 1) := by decide +kernel
theorem dX10_putOnTape_39 : decode cX10_putOnTape 39 = .ok (.putfield 73, 3) := by decide +kernel
theorem dX10_putOnTape_42 : decode cX10_putOnTape 42 = .ok (.iinc 2 (-8), 3) := by decide +kernel
theorem dX10_putOnTape_45 : decode cX10_putOnTape 45 = .ok (.goto (-42), 3) := by decide +kernel
theorem dX10_putOnTape_48 : decode cX10_putOnTape 48 = .ok (.return_, 1) := by decide +kernel
set_option maxRecDepth 20000 in
theorem ggX10_siege_X10_demand : GoodIn wsX10_siege wsX10_demand := goodIn_ca (goodIn_r _ [14, 15, 16, 17, 232, 233, 234, 235, 236, 237, 238, 239, 240, 241, 242, 243, 244] (by decide +kernel) (by decide +kernel)) (goodIn_sub (fun _ h => List.mem_cons_of_mem _ (List.mem_append_right _ h)) (by decide +kernel))
set_option maxRecDepth 20000 in
theorem gX10_siege_X10_demand : GoodIn wsX10_siege (wsV RX10 81 RX10 yX10_demand wsX10_demand) := goodIn_app (goodIn_of _ (by decide +kernel)) ggX10_siege_X10_demand
set_option maxRecDepth 20000 in
theorem ggX10_siege_X6_clear : GoodIn wsX10_siege wsX6_clear := goodIn_r _ [22, 23, 24, 25, 26, 245, 246, 247, 248, 249] (by decide +kernel) (by decide +kernel)
set_option maxRecDepth 20000 in
theorem gX10_siege_X6_clear : GoodIn wsX10_siege (wsV RX10 85 RX6 yX6_clear wsX6_clear) := goodIn_app (goodIn_of _ (by decide +kernel)) ggX10_siege_X6_clear
set_option maxRecDepth 20000 in
theorem ggX10_siege_X7_read : GoodIn wsX10_siege wsX7_read := goodIn_r _ [31, 32, 33, 34, 35, 36, 37, 38, 39, 40, 41, 42, 43, 44, 45, 46, 47, 48, 21, 49, 50, 51, 52, 30, 53, 54, 55, 56, 57, 58, 59, 60, 61, 62, 63, 64, 65, 66, 67, 68, 69, 70, 71, 72, 73, 74, 75, 76, 77, 78, 79, 80, 81, 82, 83, 84, 85, 86, 87, 88, 89, 90, 91, 92, 93, 94, 95, 96, 97, 98, 99, 100, 101, 102, 103, 104, 105, 106, 107, 108, 109, 110, 111, 112, 113, 114, 115, 116, 117, 118, 119, 120, 121, 122, 123, 124, 125, 126, 127, 128, 129, 130, 131, 132, 133, 134, 135, 136, 137, 138, 139, 23, 140, 141, 142, 143, 144, 145, 146, 147, 148, 149, 13, 150, 151, 152, 153, 154, 155, 156, 157, 158, 159, 160, 161, 162, 163, 164, 165, 166, 167, 168, 169, 170, 171, 172, 173, 174, 175, 176, 177, 178, 179, 180, 181, 182, 183, 184, 26, 24, 185, 186, 187, 188, 189, 190, 191, 192, 250, 251, 252, 253, 254, 255, 245, 246, 247, 248, 249, 256, 257, 258] (by decide +kernel) (by decide +kernel)
set_option maxRecDepth 20000 in
theorem gX10_siege_X7_read : GoodIn wsX10_siege (wsV RX10 88 RX7 yX7_read wsX7_read) := goodIn_app (goodIn_of _ (by decide +kernel)) ggX10_siege_X7_read
set_option maxRecDepth 20000 in
theorem ggX10_siege_X8_begin : GoodIn wsX10_siege wsX8_begin := goodIn_r _ [197, 198, 199, 200, 201, 202, 203, 204, 205, 206, 207, 208, 209, 210, 211, 212, 213, 214, 215, 216, 217, 218, 219, 220, 221, 222, 223, 224, 225, 226, 227, 228, 229, 230, 231, 259, 260, 261, 262, 263, 264, 265, 245, 246, 247, 248, 249, 266, 267, 268, 269, 270, 271, 272, 273, 274] (by decide +kernel) (by decide +kernel)
set_option maxRecDepth 20000 in
theorem gX10_siege_X8_begin : GoodIn wsX10_siege (wsV RX10 98 RX8 yX8_begin wsX8_begin) := goodIn_app (goodIn_of _ (by decide +kernel)) ggX10_siege_X8_begin
theorem dX10_siege_0 : decode cX10_siege 0 = .ok (.aload_n 0, 1) := by decide +kernel
theorem dX10_siege_1 : decode cX10_siege 1 = .ok (.iload_n 1, 1) := by decide +kernel
theorem dX10_siege_2 : decode cX10_siege 2 = .ok (.ifCond .lt 15, 3) := by decide +kernel
theorem dX10_siege_5 : decode cX10_siege 5 = .ok (.iload_n 1, 1) := by decide +kernel
theorem dX10_siege_6 : decode cX10_siege 6 = .ok (.aload_n 0, 1) := by decide +kernel
theorem dX10_siege_7 : decode cX10_siege 7 = .ok (.getfield 73, 3) := by decide +kernel
theorem dX10_siege_10 : decode cX10_siege 10 = .ok (.if_icmp .gt 7, 3) := by decide +kernel
theorem dX10_siege_13 : decode cX10_siege 13 = .ok (.iconst 1, 1) := by decide +kernel
theorem dX10_siege_14 : decode cX10_siege 14 = .ok (.goto 4, 3) := by decide +kernel
theorem dX10_siege_17 : decode cX10_siege 17 = .ok (.iconst 0, 1) := by decide +kernel
theorem dX10_siege_18 : decode cX10_siege 18 = .ok (.invokevirtual 81, 3) := by decide +kernel
theorem dX10_siege_21 : decode cX10_siege 21 = .ok (.aload_n 0, 1) := by decide +kernel
theorem dX10_siege_22 : decode cX10_siege 22 = .ok (.iconst 0, 1) := by decide +kernel
theorem dX10_siege_23 : decode cX10_siege 23 = .ok (.putfield 73, 3) := by decide +kernel
theorem dX10_siege_26 : decode cX10_siege 26 = .ok (.aload_n 0, 1) := by decide +kernel
theorem dX10_siege_27 : decode cX10_siege 27 = .ok (.getfield 27, 3) := by decide +kernel
theorem dX10_siege_30 : decode cX10_siege 30 = .ok (.invokevirtual 85, 3) := by decide +kernel
theorem dX10_siege_33 : decode cX10_siege 33 = .ok (.aload_n 0, 1) := by decide +kernel
theorem dX10_siege_34 : decode cX10_siege 34 = .ok (.getfield 16, 3) := by decide +kernel
theorem dX10_siege_37 : decode cX10_siege 37 = .ok (.aload_n 0, 1) := by decide +kernel
theorem dX10_siege_38 : decode cX10_siege 38 = .ok (.getfield 9, 3) := by decide +kernel
theorem dX10_siege_41 : decode cX10_siege 41 = .ok (.iload_n 1, 1) := by decide +kernel
theorem dX10_siege_42 : decode cX10_siege 42 = .ok (.aload_n 0, 1) := by decide +kernel
theorem dX10_siege_43 : decode cX10_siege 43 = .ok (.getfield 27, 3) := by decide +kernel
theorem dX10_siege_46 : decode cX10_siege 46 = .ok (.invokevirtual 88, 3) := by decide +kernel
theorem dX10_siege_49 : decode cX10_siege 49 = .ok (.istore_n 2, 1) := by decide +kernel
theorem dX10_siege_50 : decode cX10_siege 50 = .ok (.iload_n 2, 1) := by decide +kernel
theorem dX10_siege_51 : decode cX10_siege 51 = .ok (.ifCond .eq 8, 3) := by decide +kernel
theorem dX10_siege_54 : decode cX10_siege 54 = .ok (.iload_n 2, 1) := by decide +kernel
theorem dX10_siege_55 : decode cX10_siege 55 = .ok (.bipush 10, 2) := by decide +kernel
theorem dX10_siege_57 : decode cX10_siege 57 = .ok (.isub, 1) := by decide +kernel
theorem dX10_siege_58 : decode cX10_siege 58 = .ok (.ireturn, 1) := by decide +kernel
theorem dX10_siege_59 : decode cX10_siege 59 = .ok (.aload_n 0, 1) := by decide +kernel
theorem dX10_siege_60 : decode cX10_siege 60 = .ok (.getfield 23, 3) := by decide +kernel
theorem dX10_siege_63 : decode cX10_siege 63 = .ok (.astore_n 3, 1) := by decide +kernel
theorem dX10_siege_64 : decode cX10_siege 64 = .ok (.aload_n 0, 1) := by decide +kernel
theorem dX10_siege_65 : decode cX10_siege 65 = .ok (.aload_n 0, 1) := by decide +kernel
theorem dX10_siege_66 : decode cX10_siege 66 = .ok (.getfield 27, 3) := by decide +kernel
theorem dX10_siege_69 : decode cX10_siege 69 = .ok (.putfield 23, 3) := by decide +kernel
theorem dX10_siege_72 : decode cX10_siege 72 = .ok (.aload_n 0, 1) := by decide +kernel
theorem dX10_siege_73 : decode cX10_siege 73 = .ok (.aload_n 3, 1) := by decide +kernel
theorem dX10_siege_74 : decode cX10_siege 74 = .ok (.putfield 27, 3) := by decide +kernel
theorem dX10_siege_77 : decode cX10_siege 77 = .ok (.aload_n 0, 1) := by decide +kernel
theorem dX10_siege_78 : decode cX10_siege 78 = .ok (.iconst 0, 1) := by decide +kernel
theorem dX10_siege_79 : decode cX10_siege 79 = .ok (.putfield 92, 3) := by decide +kernel
theorem dX10_siege_82 : decode cX10_siege 82 = .ok (.aload_n 0, 1) := by decide +kernel
theorem dX10_siege_83 : decode cX10_siege 83 = .ok (.iconst 0, 1) := by decide +kernel
theorem dX10_siege_84 : decode cX10_siege 84 = .ok (.putfield 95, 3) := by decide +kernel
theorem dX10_siege_87 : decode cX10_siege 87 = .ok (.aload_n 0, 1) := by decide +kernel
theorem dX10_siege_88 : decode cX10_siege 88 = .ok (.getfield 39, 3) := by decide +kernel
theorem dX10_siege_91 : decode cX10_siege 91 = .ok (.aload_n 0, 1) := by decide +kernel
theorem dX10_siege_92 : decode cX10_siege 92 = .ok (.getfield 23, 3) := by decide +kernel
theorem dX10_siege_95 : decode cX10_siege 95 = .ok (.invokevirtual 98, 3) := by decide +kernel
theorem dX10_siege_98 : decode cX10_siege 98 = .ok (.aload_n 0, 1) := by decide +kernel
theorem dX10_siege_99 : decode cX10_siege 99 = .ok (.getfield 23, 3) := by decide +kernel
theorem dX10_siege_102 : decode cX10_siege 102 = .ok (.getfield 99, 3) := by decide +kernel
theorem dX10_siege_105 : decode cX10_siege 105 = .ok (.ireturn, 1) := by decide +kernel
set_option maxRecDepth 20000 in
theorem ggX10_contract_X10_demand : GoodIn wsX10_contract wsX10_demand := goodIn_ca (goodIn_r _ [13, 14, 15, 16, 195, 196, 197, 198, 199, 200, 201, 202, 203, 204, 205, 206, 207] (by decide +kernel) (by decide +kernel)) (goodIn_sub (fun _ h => List.mem_cons_of_mem _ (List.mem_append_right _ h)) (by decide +kernel))
set_option maxRecDepth 20000 in
theorem gX10_contract_X10_demand : GoodIn wsX10_contract (wsV RX10 81 RX10 yX10_demand wsX10_demand) := goodIn_app (goodIn_of _ (by decide +kernel)) ggX10_contract_X10_demand
set_option maxRecDepth 20000 in
theorem ggX10_contract_X5_clear : GoodIn wsX10_contract wsX5_clear := goodIn_r _ [21, 22, 23, 24, 25, 26, 27, 28, 219, 220, 221] (by decide +kernel) (by decide +kernel)
set_option maxRecDepth 20000 in
theorem gX10_contract_X5_clear : GoodIn wsX10_contract (wsV RX10 105 RX5 yX5_clear wsX5_clear) := goodIn_app (goodIn_of _ (by decide +kernel)) ggX10_contract_X5_clear
set_option maxRecDepth 20000 in
theorem ggX10_contract_X7_read : GoodIn wsX10_contract wsX7_read := goodIn_r _ [33, 34, 35, 36, 37, 38, 39, 40, 41, 42, 43, 44, 45, 46, 20, 47, 48, 49, 50, 51, 52, 53, 54, 32, 55, 56, 57, 58, 59, 60, 61, 62, 63, 64, 65, 66, 67, 68, 69, 70, 71, 72, 73, 74, 75, 76, 77, 78, 79, 80, 81, 82, 83, 84, 85, 86, 87, 88, 89, 90, 91, 92, 93, 94, 95, 96, 97, 98, 99, 100, 101, 102, 103, 104, 105, 106, 107, 108, 109, 110, 111, 112, 113, 114, 115, 116, 117, 118, 119, 120, 121, 122, 123, 124, 125, 126, 127, 128, 129, 130, 131, 132, 133, 134, 135, 136, 137, 138, 139, 140, 141, 142, 143, 144, 145, 146, 147, 148, 149, 150, 151, 152, 12, 153, 154, 155, 156, 157, 158, 159, 160, 161, 162, 163, 164, 165, 166, 22, 167, 168, 169, 170, 171, 172, 173, 174, 175, 176, 177, 178, 179, 180, 181, 24, 23, 182, 183, 184, 185, 186, 187, 188, 189, 190, 191, 192, 193, 194, 208, 209, 210, 211, 212, 213, 214, 215, 216, 217, 218, 219, 220, 221] (by decide +kernel) (by decide +kernel)
set_option maxRecDepth 20000 in
theorem gX10_contract_X7_read : GoodIn wsX10_contract (wsV RX10 88 RX7 yX7_read wsX7_read) := goodIn_app (goodIn_of _ (by decide +kernel)) ggX10_contract_X7_read
theorem dX10_contract_0 : decode cX10_contract 0 = .ok (.aload_n 0, 1) := by decide +kernel
theorem dX10_contract_1 : decode cX10_contract 1 = .ok (.iload_n 1, 1) := by decide +kernel
theorem dX10_contract_2 : decode cX10_contract 2 = .ok (.ifCond .lt 22, 3) := by decide +kernel
theorem dX10_contract_5 : decode cX10_contract 5 = .ok (.iload_n 1, 1) := by decide +kernel
theorem dX10_contract_6 : decode cX10_contract 6 = .ok (.aload_n 0, 1) := by decide +kernel
theorem dX10_contract_7 : decode cX10_contract 7 = .ok (.getfield 73, 3) := by decide +kernel
theorem dX10_contract_10 : decode cX10_contract 10 = .ok (.if_icmp .gt 14, 3) := by decide +kernel
theorem dX10_contract_13 : decode cX10_contract 13 = .ok (.iload_n 1, 1) := by decide +kernel
theorem dX10_contract_14 : decode cX10_contract 14 = .ok (.sipush 200, 3) := by decide +kernel
theorem dX10_contract_17 : decode cX10_contract 17 = .ok (.if_icmp .gt 7, 3) := by decide +kernel
theorem dX10_contract_20 : decode cX10_contract 20 = .ok (.iconst 1, 1) := by decide +kernel
theorem dX10_contract_21 : decode cX10_contract 21 = .ok (.goto 4, 3) := by decide +kernel
theorem dX10_contract_24 : decode cX10_contract 24 = .ok (.iconst 0, 1) := by decide +kernel
theorem dX10_contract_25 : decode cX10_contract 25 = .ok (.invokevirtual 81, 3) := by decide +kernel
theorem dX10_contract_28 : decode cX10_contract 28 = .ok (.aload_n 0, 1) := by decide +kernel
theorem dX10_contract_29 : decode cX10_contract 29 = .ok (.iconst 0, 1) := by decide +kernel
theorem dX10_contract_30 : decode cX10_contract 30 = .ok (.putfield 73, 3) := by decide +kernel
theorem dX10_contract_33 : decode cX10_contract 33 = .ok (.aload_n 0, 1) := by decide +kernel
theorem dX10_contract_34 : decode cX10_contract 34 = .ok (.getfield 92, 3) := by decide +kernel
theorem dX10_contract_37 : decode cX10_contract 37 = .ok (.bipush 6, 2) := by decide +kernel
theorem dX10_contract_39 : decode cX10_contract 39 = .ok (.if_icmp .lt 13, 3) := by decide +kernel
theorem dX10_contract_42 : decode cX10_contract 42 = .ok (.aload_n 0, 1) := by decide +kernel
theorem dX10_contract_43 : decode cX10_contract 43 = .ok (.getfield 16, 3) := by decide +kernel
theorem dX10_contract_46 : decode cX10_contract 46 = .ok (.iconst (-1), 1) := by decide +kernel
theorem dX10_contract_47 : decode cX10_contract 47 = .ok (.putfield 102, 3) := by decide +kernel
theorem dX10_contract_50 : decode cX10_contract 50 = .ok (.iconst (-1), 1) := by decide +kernel
theorem dX10_contract_51 : decode cX10_contract 51 = .ok (.ireturn, 1) := by decide +kernel
theorem dX10_contract_52 : decode cX10_contract 52 = .ok (.aload_n 0, 1) := by decide +kernel
theorem dX10_contract_53 : decode cX10_contract 53 = .ok (.getfield 32, 3) := by decide +kernel
theorem dX10_contract_56 : decode cX10_contract 56 = .ok (.aload_n 0, 1) := by decide +kernel
theorem dX10_contract_57 : decode cX10_contract 57 = .ok (.getfield 92, 3) := by decide +kernel
theorem dX10_contract_60 : decode cX10_contract 60 = .ok (.aaload, 1) := by decide +kernel
theorem dX10_contract_61 : decode cX10_contract 61 = .ok (.astore_n 2, 1) := by decide +kernel
theorem dX10_contract_62 : decode cX10_contract 62 = .ok (.aload_n 2, 1) := by decide +kernel
theorem dX10_contract_63 : decode cX10_contract 63 = .ok (.aload_n 0, 1) := by decide +kernel
theorem dX10_contract_64 : decode cX10_contract 64 = .ok (.getfield 23, 3) := by decide +kernel
theorem dX10_contract_67 : decode cX10_contract 67 = .ok (.getfield 99, 3) := by decide +kernel
theorem dX10_contract_70 : decode cX10_contract 70 = .ok (.invokevirtual 105, 3) := by decide +kernel
theorem dX10_contract_73 : decode cX10_contract 73 = .ok (.aload_n 0, 1) := by decide +kernel
theorem dX10_contract_74 : decode cX10_contract 74 = .ok (.getfield 16, 3) := by decide +kernel
theorem dX10_contract_77 : decode cX10_contract 77 = .ok (.aload_n 0, 1) := by decide +kernel
theorem dX10_contract_78 : decode cX10_contract 78 = .ok (.getfield 9, 3) := by decide +kernel
theorem dX10_contract_81 : decode cX10_contract 81 = .ok (.iload_n 1, 1) := by decide +kernel
theorem dX10_contract_82 : decode cX10_contract 82 = .ok (.aload_n 2, 1) := by decide +kernel
theorem dX10_contract_83 : decode cX10_contract 83 = .ok (.invokevirtual 88, 3) := by decide +kernel
theorem dX10_contract_86 : decode cX10_contract 86 = .ok (.istore_n 3, 1) := by decide +kernel
theorem dX10_contract_87 : decode cX10_contract 87 = .ok (.iload_n 3, 1) := by decide +kernel
theorem dX10_contract_88 : decode cX10_contract 88 = .ok (.ifCond .eq 8, 3) := by decide +kernel
theorem dX10_contract_91 : decode cX10_contract 91 = .ok (.iload_n 3, 1) := by decide +kernel
theorem dX10_contract_92 : decode cX10_contract 92 = .ok (.bipush 10, 2) := by decide +kernel
theorem dX10_contract_94 : decode cX10_contract 94 = .ok (.isub, 1) := by decide +kernel
theorem dX10_contract_95 : decode cX10_contract 95 = .ok (.ireturn, 1) := by decide +kernel
theorem dX10_contract_96 : decode cX10_contract 96 = .ok (.aload_n 0, 1) := by decide +kernel
theorem dX10_contract_97 : decode cX10_contract 97 = .ok (.dup, 1) := by decide +kernel
theorem dX10_contract_98 : decode cX10_contract 98 = .ok (.getfield 92, 3) := by decide +kernel
theorem dX10_contract_101 : decode cX10_contract 101 = .ok (.iconst 1, 1) := by decide +kernel
theorem dX10_contract_102 : decode cX10_contract 102 = .ok (.iadd, 1) := by decide +kernel
theorem dX10_contract_103 : decode cX10_contract 103 = .ok (.putfield 92, 3) := by decide +kernel
theorem dX10_contract_106 : decode cX10_contract 106 = .ok (.aload_n 0, 1) := by decide +kernel
theorem dX10_contract_107 : decode cX10_contract 107 = .ok (.getfield 92, 3) := by decide +kernel
theorem dX10_contract_110 : decode cX10_contract 110 = .ok (.iconst 1, 1) := by decide +kernel
theorem dX10_contract_111 : decode cX10_contract 111 = .ok (.isub, 1) := by decide +kernel
theorem dX10_contract_112 : decode cX10_contract 112 = .ok (.ireturn, 1) := by decide +kernel
theorem dX10_fault_0 : decode cX10_fault 0 = .ok (.aload_n 0, 1) := by decide +kernel
theorem dX10_fault_1 : decode cX10_fault 1 = .ok (.getfield 16, 3) := by decide +kernel
theorem dX10_fault_4 : decode cX10_fault 4 = .ok (.getfield 102, 3) := by decide +kernel
theorem dX10_fault_7 : decode cX10_fault 7 = .ok (.ireturn, 1) := by decide +kernel
set_option maxRecDepth 20000 in
theorem ggX10_told_X10_within : GoodIn wsX10_told wsX10_within := goodIn_r _ [11] (by decide +kernel) (by decide +kernel)
set_option maxRecDepth 20000 in
theorem gX10_told_X10_within : GoodIn wsX10_told (va_wsS RX10 107 yX10_within wsX10_within) := goodIn_app (goodIn_of _ (by decide +kernel)) ggX10_told_X10_within
set_option maxRecDepth 20000 in
theorem ggX10_told_X10_demand : GoodIn wsX10_told wsX10_demand := goodIn_ca (goodIn_r _ [15, 16, 17, 18, 19, 20, 21, 22, 23, 24, 25, 26, 27, 28, 29, 30, 31] (by decide +kernel) (by decide +kernel)) (goodIn_sub (fun _ h => List.mem_cons_of_mem _ (List.mem_append_right _ h)) (by decide +kernel))
set_option maxRecDepth 20000 in
theorem gX10_told_X10_demand : GoodIn wsX10_told (wsV RX10 81 RX10 yX10_demand wsX10_demand) := goodIn_app (goodIn_of _ (by decide +kernel)) ggX10_told_X10_demand
theorem dX10_told_0 : decode cX10_told 0 = .ok (.aload_n 0, 1) := by decide +kernel
theorem dX10_told_1 : decode cX10_told 1 = .ok (.iload_n 1, 1) := by decide +kernel
theorem dX10_told_2 : decode cX10_told 2 = .ok (.iconst 0, 1) := by decide +kernel
theorem dX10_told_3 : decode cX10_told 3 = .ok (.iconst 4, 1) := by decide +kernel
theorem dX10_told_4 : decode cX10_told 4 = .ok (.invokestatic 107, 3) := by decide +kernel
theorem dX10_told_7 : decode cX10_told 7 = .ok (.invokevirtual 81, 3) := by decide +kernel
theorem dX10_told_10 : decode cX10_told 10 = .ok (.aload_n 0, 1) := by decide +kernel
theorem dX10_told_11 : decode cX10_told 11 = .ok (.getfield 39, 3) := by decide +kernel
theorem dX10_told_14 : decode cX10_told 14 = .ok (.getfield 66, 3) := by decide +kernel
theorem dX10_told_17 : decode cX10_told 17 = .ok (.astore_n 2, 1) := by decide +kernel
theorem dX10_told_18 : decode cX10_told 18 = .ok (.aload_n 2, 1) := by decide +kernel
theorem dX10_told_19 : decode cX10_told 19 = .ok (.getfield 111, 3) := by decide +kernel
theorem dX10_told_22 : decode cX10_told 22 = .ok (.bipush 10, 2) := by decide +kernel
theorem dX10_told_24 : decode cX10_told 24 = .ok (.iaload, 1) := by decide +kernel
theorem dX10_told_25 : decode cX10_told 25 = .ok (.istore_n 3, 1) := by decide +kernel
theorem dX10_told_26 : decode cX10_told 26 = .ok (.iload_n 1, 1) := by decide +kernel
theorem dX10_told_27 : decode cX10_told 27 = .ok (.tableswitch 49 0 3 #[29, 37, 42, 47], 29) := by decide +kernel
theorem dX10_told_56 : decode cX10_told 56 = .ok (.aload_n 0, 1) := by decide +kernel
theorem dX10_told_57 : decode cX10_told 57 = .ok (.getfield 23, 3) := by decide +kernel
theorem dX10_told_60 : decode cX10_told 60 = .ok (.getfield 99, 3) := by decide +kernel
theorem dX10_told_63 : decode cX10_told 63 = .ok (.ireturn, 1) := by decide +kernel
theorem dX10_told_64 : decode cX10_told 64 = .ok (.aload_n 0, 1) := by decide +kernel
theorem dX10_told_65 : decode cX10_told 65 = .ok (.getfield 92, 3) := by decide +kernel
theorem dX10_told_68 : decode cX10_told 68 = .ok (.ireturn, 1) := by decide +kernel
theorem dX10_told_69 : decode cX10_told 69 = .ok (.aload_n 2, 1) := by decide +kernel
theorem dX10_told_70 : decode cX10_told 70 = .ok (.getfield 114, 3) := by decide +kernel
theorem dX10_told_73 : decode cX10_told 73 = .ok (.ireturn, 1) := by decide +kernel
theorem dX10_told_74 : decode cX10_told 74 = .ok (.iload_n 3, 1) := by decide +kernel
theorem dX10_told_75 : decode cX10_told 75 = .ok (.ireturn, 1) := by decide +kernel
theorem dX10_told_76 : decode cX10_told 76 = .ok (.iload_n 3, 1) := by decide +kernel
theorem dX10_told_77 : decode cX10_told 77 = .ok (.iconst (-1), 1) := by decide +kernel
theorem dX10_told_78 : decode cX10_told 78 = .ok (.if_icmp .ne 7, 3) := by decide +kernel
theorem dX10_told_81 : decode cX10_told 81 = .ok (.iconst (-1), 1) := by decide +kernel
theorem dX10_told_82 : decode cX10_told 82 = .ok (.goto 15, 3) := by decide +kernel
theorem dX10_told_85 : decode cX10_told 85 = .ok (.aload_n 2, 1) := by decide +kernel
theorem dX10_told_86 : decode cX10_told 86 = .ok (.getfield 114, 3) := by decide +kernel
theorem dX10_told_89 : decode cX10_told 89 = .ok (.aload_n 2, 1) := by decide +kernel
theorem dX10_told_90 : decode cX10_told 90 = .ok (.getfield 111, 3) := by decide +kernel
theorem dX10_told_93 : decode cX10_told 93 = .ok (.bipush 11, 2) := by decide +kernel
theorem dX10_told_95 : decode cX10_told 95 = .ok (.iaload, 1) := by decide +kernel
theorem dX10_told_96 : decode cX10_told 96 = .ok (.isub, 1) := by decide +kernel
theorem dX10_told_97 : decode cX10_told 97 = .ok (.ireturn, 1) := by decide +kernel
set_option maxRecDepth 20000 in
theorem ggX10_wall_X10_demandWall : GoodIn wsX10_wall wsX10_demandWall := goodIn_ca (goodIn_r _ [11, 12, 13, 1, 14, 15, 16, 17, 10, 18, 25, 26, 27, 28, 29, 30, 31, 32, 33, 34, 35, 36, 37, 38, 39, 40, 41, 42] (by decide +kernel) (by decide +kernel)) (goodIn_sub (fun _ h => List.mem_cons_of_mem _ (List.mem_append_left _ (List.mem_append_right _ h))) (by decide +kernel))
set_option maxRecDepth 20000 in
theorem gX10_wall_X10_demandWall : GoodIn wsX10_wall (wsV RX10 117 RX10 yX10_demandWall wsX10_demandWall) := goodIn_app (goodIn_of _ (by decide +kernel)) ggX10_wall_X10_demandWall
set_option maxRecDepth 20000 in
theorem ggX10_wall_X10_within : GoodIn wsX10_wall wsX10_within := goodIn_r _ [18] (by decide +kernel) (by decide +kernel)
set_option maxRecDepth 20000 in
theorem gX10_wall_X10_within : GoodIn wsX10_wall (va_wsS RX10 107 yX10_within wsX10_within) := goodIn_app (goodIn_of _ (by decide +kernel)) ggX10_wall_X10_within
set_option maxRecDepth 20000 in
theorem ggX10_wall_X10_demand : GoodIn wsX10_wall wsX10_demand := goodIn_ca (goodIn_r _ [22, 23, 24, 15, 25, 26, 27, 28, 29, 30, 31, 32, 33, 34, 35, 36, 37] (by decide +kernel) (by decide +kernel)) (goodIn_sub (fun _ h => List.mem_cons_of_mem _ (List.mem_append_right _ h)) (by decide +kernel))
set_option maxRecDepth 20000 in
theorem gX10_wall_X10_demand : GoodIn wsX10_wall (wsV RX10 81 RX10 yX10_demand wsX10_demand) := goodIn_app (goodIn_of _ (by decide +kernel)) ggX10_wall_X10_demand
theorem dX10_wall_0 : decode cX10_wall 0 = .ok (.aload_n 0, 1) := by decide +kernel
theorem dX10_wall_1 : decode cX10_wall 1 = .ok (.iload_n 1, 1) := by decide +kernel
theorem dX10_wall_2 : decode cX10_wall 2 = .ok (.invokevirtual 117, 3) := by decide +kernel
theorem dX10_wall_5 : decode cX10_wall 5 = .ok (.aload_n 0, 1) := by decide +kernel
theorem dX10_wall_6 : decode cX10_wall 6 = .ok (.iload_n 2, 1) := by decide +kernel
theorem dX10_wall_7 : decode cX10_wall 7 = .ok (.iconst 0, 1) := by decide +kernel
theorem dX10_wall_8 : decode cX10_wall 8 = .ok (.iconst 3, 1) := by decide +kernel
theorem dX10_wall_9 : decode cX10_wall 9 = .ok (.invokestatic 107, 3) := by decide +kernel
theorem dX10_wall_12 : decode cX10_wall 12 = .ok (.invokevirtual 81, 3) := by decide +kernel
theorem dX10_wall_15 : decode cX10_wall 15 = .ok (.iload_n 2, 1) := by decide +kernel
theorem dX10_wall_16 : decode cX10_wall 16 = .ok (.tableswitch 64 0 2 #[28, 38, 54], 28) := by decide +kernel
theorem dX10_wall_44 : decode cX10_wall 44 = .ok (.aload_n 0, 1) := by decide +kernel
theorem dX10_wall_45 : decode cX10_wall 45 = .ok (.getfield 23, 3) := by decide +kernel
theorem dX10_wall_48 : decode cX10_wall 48 = .ok (.getfield 120, 3) := by decide +kernel
theorem dX10_wall_51 : decode cX10_wall 51 = .ok (.iload_n 1, 1) := by decide +kernel
theorem dX10_wall_52 : decode cX10_wall 52 = .ok (.iaload, 1) := by decide +kernel
theorem dX10_wall_53 : decode cX10_wall 53 = .ok (.ireturn, 1) := by decide +kernel
theorem dX10_wall_54 : decode cX10_wall 54 = .ok (.aload_n 0, 1) := by decide +kernel
theorem dX10_wall_55 : decode cX10_wall 55 = .ok (.getfield 39, 3) := by decide +kernel
theorem dX10_wall_58 : decode cX10_wall 58 = .ok (.getfield 66, 3) := by decide +kernel
theorem dX10_wall_61 : decode cX10_wall 61 = .ok (.getfield 111, 3) := by decide +kernel
theorem dX10_wall_64 : decode cX10_wall 64 = .ok (.bipush 12, 2) := by decide +kernel
theorem dX10_wall_66 : decode cX10_wall 66 = .ok (.iload_n 1, 1) := by decide +kernel
theorem dX10_wall_67 : decode cX10_wall 67 = .ok (.iadd, 1) := by decide +kernel
theorem dX10_wall_68 : decode cX10_wall 68 = .ok (.iaload, 1) := by decide +kernel
theorem dX10_wall_69 : decode cX10_wall 69 = .ok (.ireturn, 1) := by decide +kernel
theorem dX10_wall_70 : decode cX10_wall 70 = .ok (.aload_n 0, 1) := by decide +kernel
theorem dX10_wall_71 : decode cX10_wall 71 = .ok (.getfield 23, 3) := by decide +kernel
theorem dX10_wall_74 : decode cX10_wall 74 = .ok (.getfield 123, 3) := by decide +kernel
theorem dX10_wall_77 : decode cX10_wall 77 = .ok (.iload_n 1, 1) := by decide +kernel
theorem dX10_wall_78 : decode cX10_wall 78 = .ok (.iaload, 1) := by decide +kernel
theorem dX10_wall_79 : decode cX10_wall 79 = .ok (.ireturn, 1) := by decide +kernel
theorem dX10_wall_80 : decode cX10_wall 80 = .ok (.aload_n 0, 1) := by decide +kernel
theorem dX10_wall_81 : decode cX10_wall 81 = .ok (.getfield 39, 3) := by decide +kernel
theorem dX10_wall_84 : decode cX10_wall 84 = .ok (.getfield 66, 3) := by decide +kernel
theorem dX10_wall_87 : decode cX10_wall 87 = .ok (.getfield 111, 3) := by decide +kernel
theorem dX10_wall_90 : decode cX10_wall 90 = .ok (.bipush 18, 2) := by decide +kernel
theorem dX10_wall_92 : decode cX10_wall 92 = .ok (.iload_n 1, 1) := by decide +kernel
theorem dX10_wall_93 : decode cX10_wall 93 = .ok (.iadd, 1) := by decide +kernel
theorem dX10_wall_94 : decode cX10_wall 94 = .ok (.iaload, 1) := by decide +kernel
theorem dX10_wall_95 : decode cX10_wall 95 = .ok (.ireturn, 1) := by decide +kernel
set_option maxRecDepth 20000 in
theorem ggX10_rule_X10_demandContract : GoodIn wsX10_rule wsX10_demandContract := goodIn_ca (goodIn_r _ [6, 7, 8, 9, 10, 11, 12, 5, 13, 35, 36, 37, 38, 39, 40, 41, 42, 43, 44, 45, 46, 47] (by decide +kernel) (by decide +kernel)) (goodIn_sub (fun _ h => List.mem_cons_of_mem _ (List.mem_append_left _ (List.mem_append_right _ h))) (by decide +kernel))
set_option maxRecDepth 20000 in
theorem gX10_rule_X10_demandContract : GoodIn wsX10_rule (wsV RX10 126 RX10 yX10_demandContract wsX10_demandContract) := goodIn_app (goodIn_of _ (by decide +kernel)) ggX10_rule_X10_demandContract
set_option maxRecDepth 20000 in
theorem ggX10_rule_X10_within : GoodIn wsX10_rule wsX10_within := goodIn_r _ [13] (by decide +kernel) (by decide +kernel)
set_option maxRecDepth 20000 in
theorem gX10_rule_X10_within : GoodIn wsX10_rule (va_wsS RX10 107 yX10_within wsX10_within) := goodIn_app (goodIn_of _ (by decide +kernel)) ggX10_rule_X10_within
set_option maxRecDepth 20000 in
theorem ggX10_rule_X10_demand : GoodIn wsX10_rule wsX10_demand := goodIn_ca (goodIn_r _ [17, 18, 19, 10, 35, 36, 37, 38, 39, 40, 41, 42, 43, 44, 45, 46, 47] (by decide +kernel) (by decide +kernel)) (goodIn_sub (fun _ h => List.mem_cons_of_mem _ (List.mem_append_right _ h)) (by decide +kernel))
set_option maxRecDepth 20000 in
theorem gX10_rule_X10_demand : GoodIn wsX10_rule (wsV RX10 81 RX10 yX10_demand wsX10_demand) := goodIn_app (goodIn_of _ (by decide +kernel)) ggX10_rule_X10_demand
set_option maxRecDepth 20000 in
theorem ggX10_rule_X5_answer : GoodIn wsX10_rule wsX5_answer := goodIn_r _ [24, 25, 26, 27, 28, 23, 29, 30, 31, 32, 33, 34, 48, 49, 50] (by decide +kernel) (by decide +kernel)
set_option maxRecDepth 20000 in
theorem gX10_rule_X5_answer : GoodIn wsX10_rule (wsV RX10 129 RX5 yX5_answer wsX5_answer) := goodIn_app (goodIn_of _ (by decide +kernel)) ggX10_rule_X5_answer
theorem dX10_rule_0 : decode cX10_rule 0 = .ok (.aload_n 0, 1) := by decide +kernel
theorem dX10_rule_1 : decode cX10_rule 1 = .ok (.iload_n 1, 1) := by decide +kernel
theorem dX10_rule_2 : decode cX10_rule 2 = .ok (.invokevirtual 126, 3) := by decide +kernel
theorem dX10_rule_5 : decode cX10_rule 5 = .ok (.aload_n 0, 1) := by decide +kernel
theorem dX10_rule_6 : decode cX10_rule 6 = .ok (.iload_n 2, 1) := by decide +kernel
theorem dX10_rule_7 : decode cX10_rule 7 = .ok (.iconst 0, 1) := by decide +kernel
theorem dX10_rule_8 : decode cX10_rule 8 = .ok (.bipush 6, 2) := by decide +kernel
theorem dX10_rule_10 : decode cX10_rule 10 = .ok (.invokestatic 107, 3) := by decide +kernel
theorem dX10_rule_13 : decode cX10_rule 13 = .ok (.invokevirtual 81, 3) := by decide +kernel
theorem dX10_rule_16 : decode cX10_rule 16 = .ok (.aload_n 0, 1) := by decide +kernel
theorem dX10_rule_17 : decode cX10_rule 17 = .ok (.getfield 32, 3) := by decide +kernel
theorem dX10_rule_20 : decode cX10_rule 20 = .ok (.iload_n 1, 1) := by decide +kernel
theorem dX10_rule_21 : decode cX10_rule 21 = .ok (.aaload, 1) := by decide +kernel
theorem dX10_rule_22 : decode cX10_rule 22 = .ok (.iload_n 2, 1) := by decide +kernel
theorem dX10_rule_23 : decode cX10_rule 23 = .ok (.invokevirtual 129, 3) := by decide +kernel
theorem dX10_rule_26 : decode cX10_rule 26 = .ok (.ireturn, 1) := by decide +kernel
set_option maxRecDepth 20000 in
theorem ggX10_wants_X10_within : GoodIn wsX10_wants wsX10_within := goodIn_r _ [5] (by decide +kernel) (by decide +kernel)
set_option maxRecDepth 20000 in
theorem gX10_wants_X10_within : GoodIn wsX10_wants (va_wsS RX10 107 yX10_within wsX10_within) := goodIn_app (goodIn_of _ (by decide +kernel)) ggX10_wants_X10_within
set_option maxRecDepth 20000 in
theorem ggX10_wants_X10_demand : GoodIn wsX10_wants wsX10_demand := goodIn_ca (goodIn_r _ [9, 10, 11, 12, 19, 20, 21, 22, 23, 24, 25, 26, 27, 28, 29, 30, 31] (by decide +kernel) (by decide +kernel)) (goodIn_sub (fun _ h => List.mem_cons_of_mem _ (List.mem_append_right _ h)) (by decide +kernel))
set_option maxRecDepth 20000 in
theorem gX10_wants_X10_demand : GoodIn wsX10_wants (wsV RX10 81 RX10 yX10_demand wsX10_demand) := goodIn_app (goodIn_of _ (by decide +kernel)) ggX10_wants_X10_demand
set_option maxRecDepth 20000 in
theorem ggX10_wants_X6_wanted : GoodIn wsX10_wants wsX6_wanted := goodIn_r _ [17, 18, 32, 33, 34, 35, 36] (by decide +kernel) (by decide +kernel)
set_option maxRecDepth 20000 in
theorem gX10_wants_X6_wanted : GoodIn wsX10_wants (wsV RX10 133 RX6 yX6_wanted wsX6_wanted) := goodIn_app (goodIn_of _ (by decide +kernel)) ggX10_wants_X6_wanted
theorem dX10_wants_0 : decode cX10_wants 0 = .ok (.aload_n 0, 1) := by decide +kernel
theorem dX10_wants_1 : decode cX10_wants 1 = .ok (.iload_n 1, 1) := by decide +kernel
theorem dX10_wants_2 : decode cX10_wants 2 = .ok (.iconst 0, 1) := by decide +kernel
theorem dX10_wants_3 : decode cX10_wants 3 = .ok (.bipush 9, 2) := by decide +kernel
theorem dX10_wants_5 : decode cX10_wants 5 = .ok (.invokestatic 107, 3) := by decide +kernel
theorem dX10_wants_8 : decode cX10_wants 8 = .ok (.ifCond .eq 17, 3) := by decide +kernel
theorem dX10_wants_11 : decode cX10_wants 11 = .ok (.iload_n 2, 1) := by decide +kernel
theorem dX10_wants_12 : decode cX10_wants 12 = .ok (.iconst 0, 1) := by decide +kernel
theorem dX10_wants_13 : decode cX10_wants 13 = .ok (.bipush 99, 2) := by decide +kernel
theorem dX10_wants_15 : decode cX10_wants 15 = .ok (.invokestatic 107, 3) := by decide +kernel
theorem dX10_wants_18 : decode cX10_wants 18 = .ok (.ifCond .eq 7, 3) := by decide +kernel
theorem dX10_wants_21 : decode cX10_wants 21 = .ok (.iconst 1, 1) := by decide +kernel
theorem dX10_wants_22 : decode cX10_wants 22 = .ok (.goto 4, 3) := by decide +kernel
theorem dX10_wants_25 : decode cX10_wants 25 = .ok (.iconst 0, 1) := by decide +kernel
theorem dX10_wants_26 : decode cX10_wants 26 = .ok (.invokevirtual 81, 3) := by decide +kernel
theorem dX10_wants_29 : decode cX10_wants 29 = .ok (.aload_n 0, 1) := by decide +kernel
theorem dX10_wants_30 : decode cX10_wants 30 = .ok (.getfield 23, 3) := by decide +kernel
theorem dX10_wants_33 : decode cX10_wants 33 = .ok (.iload_n 1, 1) := by decide +kernel
theorem dX10_wants_34 : decode cX10_wants 34 = .ok (.iload_n 2, 1) := by decide +kernel
theorem dX10_wants_35 : decode cX10_wants 35 = .ok (.invokevirtual 133, 3) := by decide +kernel
theorem dX10_wants_38 : decode cX10_wants 38 = .ok (.ireturn, 1) := by decide +kernel
set_option maxRecDepth 20000 in
theorem ggX10_sign_X10_demandContractOrNone : GoodIn wsX10_sign wsX10_demandContractOrNone := goodIn_ca (goodIn_r _ [8, 9, 10, 11, 7, 12, 13, 14, 15, 16, 17, 18, 19, 27, 28, 29, 30, 31, 32, 33, 34, 35, 36, 37, 38, 39] (by decide +kernel) (by decide +kernel)) (goodIn_sub (fun _ h => List.mem_cons_of_mem _ (List.mem_append_right _ h)) (by decide +kernel))
set_option maxRecDepth 20000 in
theorem gX10_sign_X10_demandContractOrNone : GoodIn wsX10_sign (wsV RX10 137 RX10 yX10_demandContractOrNone wsX10_demandContractOrNone) := goodIn_app (goodIn_of _ (by decide +kernel)) ggX10_sign_X10_demandContractOrNone
set_option maxRecDepth 20000 in
theorem ggX10_sign_X4_pledge : GoodIn wsX10_sign wsX4_pledge := goodIn_r _ [24, 25, 26, 44, 45, 46] (by decide +kernel) (by decide +kernel)
set_option maxRecDepth 20000 in
theorem gX10_sign_X4_pledge : GoodIn wsX10_sign (wsV RX10 140 RX4 yX4_pledge wsX4_pledge) := goodIn_app (goodIn_of _ (by decide +kernel)) ggX10_sign_X4_pledge
theorem dX10_sign_0 : decode cX10_sign 0 = .ok (.aload_n 0, 1) := by decide +kernel
theorem dX10_sign_1 : decode cX10_sign 1 = .ok (.iload_n 1, 1) := by decide +kernel
theorem dX10_sign_2 : decode cX10_sign 2 = .ok (.invokevirtual 137, 3) := by decide +kernel
theorem dX10_sign_5 : decode cX10_sign 5 = .ok (.aload_n 0, 1) := by decide +kernel
theorem dX10_sign_6 : decode cX10_sign 6 = .ok (.getfield 39, 3) := by decide +kernel
theorem dX10_sign_9 : decode cX10_sign 9 = .ok (.getfield 66, 3) := by decide +kernel
theorem dX10_sign_12 : decode cX10_sign 12 = .ok (.getfield 111, 3) := by decide +kernel
theorem dX10_sign_15 : decode cX10_sign 15 = .ok (.bipush 10, 2) := by decide +kernel
theorem dX10_sign_17 : decode cX10_sign 17 = .ok (.iaload, 1) := by decide +kernel
theorem dX10_sign_18 : decode cX10_sign 18 = .ok (.istore_n 2, 1) := by decide +kernel
theorem dX10_sign_19 : decode cX10_sign 19 = .ok (.aload_n 0, 1) := by decide +kernel
theorem dX10_sign_20 : decode cX10_sign 20 = .ok (.getfield 39, 3) := by decide +kernel
theorem dX10_sign_23 : decode cX10_sign 23 = .ok (.getfield 66, 3) := by decide +kernel
theorem dX10_sign_26 : decode cX10_sign 26 = .ok (.iload_n 1, 1) := by decide +kernel
theorem dX10_sign_27 : decode cX10_sign 27 = .ok (.invokevirtual 140, 3) := by decide +kernel
theorem dX10_sign_30 : decode cX10_sign 30 = .ok (.iload_n 2, 1) := by decide +kernel
theorem dX10_sign_31 : decode cX10_sign 31 = .ok (.ireturn, 1) := by decide +kernel
set_option maxRecDepth 20000 in
theorem ggX10_months_X10_within : GoodIn wsX10_months wsX10_within := goodIn_r _ [9] (by decide +kernel) (by decide +kernel)
set_option maxRecDepth 20000 in
theorem gX10_months_X10_within : GoodIn wsX10_months (va_wsS RX10 107 yX10_within wsX10_within) := goodIn_app (goodIn_of _ (by decide +kernel)) ggX10_months_X10_within
set_option maxRecDepth 20000 in
theorem ggX10_months_X10_demand : GoodIn wsX10_months wsX10_demand := goodIn_ca (goodIn_r _ [13, 14, 15, 16, 120, 121, 122, 123, 124, 125, 126, 127, 128, 129, 130, 131, 132] (by decide +kernel) (by decide +kernel)) (goodIn_sub (fun _ h => List.mem_cons_of_mem _ (List.mem_append_right _ h)) (by decide +kernel))
set_option maxRecDepth 20000 in
theorem gX10_months_X10_demand : GoodIn wsX10_months (wsV RX10 81 RX10 yX10_demand wsX10_demand) := goodIn_app (goodIn_of _ (by decide +kernel)) ggX10_months_X10_demand
set_option maxRecDepth 20000 in
theorem ggX10_months_X0_keep : GoodIn wsX10_months wsX0_keep := goodIn_r _ [21, 22, 23, 24, 25, 26, 27, 28, 7, 8, 9, 137, 138, 139, 140] (by decide +kernel) (by decide +kernel)
set_option maxRecDepth 20000 in
theorem gX10_months_X0_keep : GoodIn wsX10_months (wsV RX10 147 RX0 yX0_keep wsX0_keep) := goodIn_app (goodIn_of _ (by decide +kernel)) ggX10_months_X0_keep
set_option maxRecDepth 20000 in
theorem ggX10_months_X10_inForce : GoodIn wsX10_months wsX10_inForce := goodIn_r _ [32, 33, 34, 6, 7, 8, 9, 137, 138, 139, 120, 121, 122, 123, 124, 125, 126, 127, 128, 129, 130, 131, 132] (by decide +kernel) (by decide +kernel)
set_option maxRecDepth 20000 in
theorem gX10_months_X10_inForce : GoodIn wsX10_months (wsV RX10 153 RX10 yX10_inForce wsX10_inForce) := goodIn_app (goodIn_of _ (by decide +kernel)) ggX10_months_X10_inForce
set_option maxRecDepth 20000 in
theorem ggX10_months_X4_pass : GoodIn wsX10_months wsX4_pass := goodIn_r _ [39, 40, 41, 42, 43, 44, 45, 46, 47, 48, 49, 50, 51, 52, 53, 54, 55, 38, 56, 57, 58, 59, 60, 61, 62, 63, 64, 65, 66, 67, 68, 69, 70, 71, 72, 73, 74, 75, 76, 77, 78, 79, 80, 81, 82, 83, 7, 8, 9, 84, 85, 86, 87, 88, 89, 90, 91, 92, 93, 94, 95, 96, 97, 98, 99, 100, 101, 102, 103, 104, 105, 106, 107, 108, 109, 110, 111, 112, 113, 114, 137, 138, 139, 141, 142, 143, 144, 145, 146, 147, 148] (by decide +kernel) (by decide +kernel)
set_option maxRecDepth 20000 in
theorem gX10_months_X4_pass : GoodIn wsX10_months (wsV RX10 157 RX4 yX4_pass wsX4_pass) := goodIn_app (goodIn_of _ (by decide +kernel)) ggX10_months_X4_pass
set_option maxRecDepth 20000 in
theorem ggX10_months_X0_lead : GoodIn wsX10_months wsX0_lead := goodIn_r _ [118, 22, 119, 24, 25, 26, 27, 28, 7, 8, 9, 137, 138, 139, 140] (by decide +kernel) (by decide +kernel)
set_option maxRecDepth 20000 in
theorem gX10_months_X0_lead : GoodIn wsX10_months (wsV RX10 161 RX0 yX0_lead wsX0_lead) := goodIn_app (goodIn_of _ (by decide +kernel)) ggX10_months_X0_lead
theorem dX10_months_0 : decode cX10_months 0 = .ok (.aload_n 0, 1) := by decide +kernel
theorem dX10_months_1 : decode cX10_months 1 = .ok (.iload_n 1, 1) := by decide +kernel
theorem dX10_months_2 : decode cX10_months 2 = .ok (.iconst 1, 1) := by decide +kernel
theorem dX10_months_3 : decode cX10_months 3 = .ok (.bipush 120, 2) := by decide +kernel
theorem dX10_months_5 : decode cX10_months 5 = .ok (.invokestatic 107, 3) := by decide +kernel
theorem dX10_months_8 : decode cX10_months 8 = .ok (.invokevirtual 81, 3) := by decide +kernel
theorem dX10_months_11 : decode cX10_months 11 = .ok (.iconst 0, 1) := by decide +kernel
theorem dX10_months_12 : decode cX10_months 12 = .ok (.istore_n 2, 1) := by decide +kernel
theorem dX10_months_13 : decode cX10_months 13 = .ok (.iload_n 2, 1) := by decide +kernel
theorem dX10_months_14 : decode cX10_months 14 = .ok (.iload_n 1, 1) := by decide +kernel
theorem dX10_months_15 : decode cX10_months 15 = .ok (.if_icmp .ge 83, 3) := by decide +kernel
theorem dX10_months_18 : decode cX10_months 18 = .ok (.aload_n 0, 1) := by decide +kernel
theorem dX10_months_19 : decode cX10_months 19 = .ok (.getfield 39, 3) := by decide +kernel
theorem dX10_months_22 : decode cX10_months 22 = .ok (.getfield 66, 3) := by decide +kernel
theorem dX10_months_25 : decode cX10_months 25 = .ok (.getfield 114, 3) := by decide +kernel
theorem dX10_months_28 : decode cX10_months 28 = .ok (.bipush 120, 2) := by decide +kernel
theorem dX10_months_30 : decode cX10_months 30 = .ok (.if_icmp .ge 68, 3) := by decide +kernel
theorem dX10_months_33 : decode cX10_months 33 = .ok (.aload_n 0, 1) := by decide +kernel
theorem dX10_months_34 : decode cX10_months 34 = .ok (.getfield 39, 3) := by decide +kernel
theorem dX10_months_37 : decode cX10_months 37 = .ok (.getfield 143, 3) := by decide +kernel
theorem dX10_months_40 : decode cX10_months 40 = .ok (.aload_n 0, 1) := by decide +kernel
theorem dX10_months_41 : decode cX10_months 41 = .ok (.getfield 39, 3) := by decide +kernel
theorem dX10_months_44 : decode cX10_months 44 = .ok (.getfield 66, 3) := by decide +kernel
theorem dX10_months_47 : decode cX10_months 47 = .ok (.invokevirtual 147, 3) := by decide +kernel
theorem dX10_months_50 : decode cX10_months 50 = .ok (.aload_n 0, 1) := by decide +kernel
theorem dX10_months_51 : decode cX10_months 51 = .ok (.getfield 39, 3) := by decide +kernel
theorem dX10_months_54 : decode cX10_months 54 = .ok (.getfield 66, 3) := by decide +kernel
theorem dX10_months_57 : decode cX10_months 57 = .ok (.aload_n 0, 1) := by decide +kernel
theorem dX10_months_58 : decode cX10_months 58 = .ok (.getfield 23, 3) := by decide +kernel
theorem dX10_months_61 : decode cX10_months 61 = .ok (.aload_n 0, 1) := by decide +kernel
theorem dX10_months_62 : decode cX10_months 62 = .ok (.aload_n 0, 1) := by decide +kernel
theorem dX10_months_63 : decode cX10_months 63 = .ok (.getfield 39, 3) := by decide +kernel
theorem dX10_months_66 : decode cX10_months 66 = .ok (.getfield 66, 3) := by decide +kernel
theorem dX10_months_69 : decode cX10_months 69 = .ok (.invokevirtual 153, 3) := by decide +kernel
theorem dX10_months_72 : decode cX10_months 72 = .ok (.invokevirtual 157, 3) := by decide +kernel
theorem dX10_months_75 : decode cX10_months 75 = .ok (.aload_n 0, 1) := by decide +kernel
theorem dX10_months_76 : decode cX10_months 76 = .ok (.getfield 39, 3) := by decide +kernel
theorem dX10_months_79 : decode cX10_months 79 = .ok (.getfield 143, 3) := by decide +kernel
theorem dX10_months_82 : decode cX10_months 82 = .ok (.aload_n 0, 1) := by decide +kernel
theorem dX10_months_83 : decode cX10_months 83 = .ok (.getfield 39, 3) := by decide +kernel
theorem dX10_months_86 : decode cX10_months 86 = .ok (.getfield 66, 3) := by decide +kernel
theorem dX10_months_89 : decode cX10_months 89 = .ok (.invokevirtual 161, 3) := by decide +kernel
theorem dX10_months_92 : decode cX10_months 92 = .ok (.iinc 2 1, 3) := by decide +kernel
theorem dX10_months_95 : decode cX10_months 95 = .ok (.goto (-82), 3) := by decide +kernel
theorem dX10_months_98 : decode cX10_months 98 = .ok (.iload_n 2, 1) := by decide +kernel
theorem dX10_months_99 : decode cX10_months 99 = .ok (.ireturn, 1) := by decide +kernel
set_option maxRecDepth 20000 in
theorem ggX10_undo_X10_within : GoodIn wsX10_undo wsX10_within := goodIn_r _ [12] (by decide +kernel) (by decide +kernel)
set_option maxRecDepth 20000 in
theorem gX10_undo_X10_within : GoodIn wsX10_undo (va_wsS RX10 107 yX10_within wsX10_within) := goodIn_app (goodIn_of _ (by decide +kernel)) ggX10_undo_X10_within
set_option maxRecDepth 20000 in
theorem ggX10_undo_X10_demand : GoodIn wsX10_undo wsX10_demand := goodIn_ca (goodIn_r _ [16, 17, 18, 19, 32, 33, 34, 35, 36, 37, 38, 39, 40, 41, 42, 43, 44] (by decide +kernel) (by decide +kernel)) (goodIn_sub (fun _ h => List.mem_cons_of_mem _ (List.mem_append_right _ h)) (by decide +kernel))
set_option maxRecDepth 20000 in
theorem gX10_undo_X10_demand : GoodIn wsX10_undo (wsV RX10 81 RX10 yX10_demand wsX10_demand) := goodIn_app (goodIn_of _ (by decide +kernel)) ggX10_undo_X10_demand
set_option maxRecDepth 20000 in
theorem ggX10_undo_X0_giveBack : GoodIn wsX10_undo wsX0_giveBack := goodIn_r _ [24, 25, 26, 27, 28, 29, 30, 31, 10, 11, 12, 52, 49, 50, 51] (by decide +kernel) (by decide +kernel)
set_option maxRecDepth 20000 in
theorem gX10_undo_X0_giveBack : GoodIn wsX10_undo (wsV RX10 169 RX0 yX0_giveBack wsX0_giveBack) := goodIn_app (goodIn_of _ (by decide +kernel)) ggX10_undo_X0_giveBack
theorem dX10_undo_0 : decode cX10_undo 0 = .ok (.aload_n 0, 1) := by decide +kernel
theorem dX10_undo_1 : decode cX10_undo 1 = .ok (.iload_n 1, 1) := by decide +kernel
theorem dX10_undo_2 : decode cX10_undo 2 = .ok (.iconst 1, 1) := by decide +kernel
theorem dX10_undo_3 : decode cX10_undo 3 = .ok (.bipush 120, 2) := by decide +kernel
theorem dX10_undo_5 : decode cX10_undo 5 = .ok (.invokestatic 107, 3) := by decide +kernel
theorem dX10_undo_8 : decode cX10_undo 8 = .ok (.invokevirtual 81, 3) := by decide +kernel
theorem dX10_undo_11 : decode cX10_undo 11 = .ok (.iload_n 1, 1) := by decide +kernel
theorem dX10_undo_12 : decode cX10_undo 12 = .ok (.aload_n 0, 1) := by decide +kernel
theorem dX10_undo_13 : decode cX10_undo 13 = .ok (.getfield 39, 3) := by decide +kernel
theorem dX10_undo_16 : decode cX10_undo 16 = .ok (.getfield 66, 3) := by decide +kernel
theorem dX10_undo_19 : decode cX10_undo 19 = .ok (.getfield 114, 3) := by decide +kernel
theorem dX10_undo_22 : decode cX10_undo 22 = .ok (.invokestatic 164, 3) := by decide +kernel
theorem dX10_undo_25 : decode cX10_undo 25 = .ok (.istore_n 2, 1) := by decide +kernel
theorem dX10_undo_26 : decode cX10_undo 26 = .ok (.iload_n 2, 1) := by decide +kernel
theorem dX10_undo_27 : decode cX10_undo 27 = .ok (.ifCond .le 32, 3) := by decide +kernel
theorem dX10_undo_30 : decode cX10_undo 30 = .ok (.aload_n 0, 1) := by decide +kernel
theorem dX10_undo_31 : decode cX10_undo 31 = .ok (.getfield 39, 3) := by decide +kernel
theorem dX10_undo_34 : decode cX10_undo 34 = .ok (.getfield 143, 3) := by decide +kernel
theorem dX10_undo_37 : decode cX10_undo 37 = .ok (.aload_n 0, 1) := by decide +kernel
theorem dX10_undo_38 : decode cX10_undo 38 = .ok (.getfield 39, 3) := by decide +kernel
theorem dX10_undo_41 : decode cX10_undo 41 = .ok (.getfield 66, 3) := by decide +kernel
theorem dX10_undo_44 : decode cX10_undo 44 = .ok (.aload_n 0, 1) := by decide +kernel
theorem dX10_undo_45 : decode cX10_undo 45 = .ok (.getfield 39, 3) := by decide +kernel
theorem dX10_undo_48 : decode cX10_undo 48 = .ok (.getfield 66, 3) := by decide +kernel
theorem dX10_undo_51 : decode cX10_undo 51 = .ok (.getfield 114, 3) := by decide +kernel
theorem dX10_undo_54 : decode cX10_undo 54 = .ok (.iload_n 2, 1) := by decide +kernel
theorem dX10_undo_55 : decode cX10_undo 55 = .ok (.isub, 1) := by decide +kernel
theorem dX10_undo_56 : decode cX10_undo 56 = .ok (.invokevirtual 169, 3) := by decide +kernel
theorem dX10_undo_59 : decode cX10_undo 59 = .ok (.iload_n 2, 1) := by decide +kernel
theorem dX10_undo_60 : decode cX10_undo 60 = .ok (.ireturn, 1) := by decide +kernel
set_option maxRecDepth 20000 in
theorem ggX10_sums_X10_within : GoodIn wsX10_sums wsX10_within := goodIn_r _ [7] (by decide +kernel) (by decide +kernel)
set_option maxRecDepth 20000 in
theorem gX10_sums_X10_within : GoodIn wsX10_sums (va_wsS RX10 107 yX10_within wsX10_within) := goodIn_app (goodIn_of _ (by decide +kernel)) ggX10_sums_X10_within
set_option maxRecDepth 20000 in
theorem ggX10_sums_X10_demand : GoodIn wsX10_sums wsX10_demand := goodIn_ca (goodIn_r _ [11, 12, 13, 14, 15, 16, 17, 18, 19, 20, 21, 22, 23, 24, 25, 26, 27] (by decide +kernel) (by decide +kernel)) (goodIn_sub (fun _ h => List.mem_cons_of_mem _ (List.mem_append_right _ h)) (by decide +kernel))
set_option maxRecDepth 20000 in
theorem gX10_sums_X10_demand : GoodIn wsX10_sums (wsV RX10 81 RX10 yX10_demand wsX10_demand) := goodIn_app (goodIn_of _ (by decide +kernel)) ggX10_sums_X10_demand
theorem dX10_sums_0 : decode cX10_sums 0 = .ok (.aload_n 0, 1) := by decide +kernel
theorem dX10_sums_1 : decode cX10_sums 1 = .ok (.iload_n 1, 1) := by decide +kernel
theorem dX10_sums_2 : decode cX10_sums 2 = .ok (.iconst 0, 1) := by decide +kernel
theorem dX10_sums_3 : decode cX10_sums 3 = .ok (.bipush 9, 2) := by decide +kernel
theorem dX10_sums_5 : decode cX10_sums 5 = .ok (.invokestatic 107, 3) := by decide +kernel
theorem dX10_sums_8 : decode cX10_sums 8 = .ok (.invokevirtual 81, 3) := by decide +kernel
theorem dX10_sums_11 : decode cX10_sums 11 = .ok (.aload_n 0, 1) := by decide +kernel
theorem dX10_sums_12 : decode cX10_sums 12 = .ok (.getfield 39, 3) := by decide +kernel
theorem dX10_sums_15 : decode cX10_sums 15 = .ok (.getfield 66, 3) := by decide +kernel
theorem dX10_sums_18 : decode cX10_sums 18 = .ok (.getfield 111, 3) := by decide +kernel
theorem dX10_sums_21 : decode cX10_sums 21 = .ok (.iload_n 1, 1) := by decide +kernel
theorem dX10_sums_22 : decode cX10_sums 22 = .ok (.iaload, 1) := by decide +kernel
theorem dX10_sums_23 : decode cX10_sums 23 = .ok (.ireturn, 1) := by decide +kernel
set_option maxRecDepth 20000 in
theorem ggX10_corks_X10_demandWall : GoodIn wsX10_corks wsX10_demandWall := goodIn_ca (goodIn_r _ [9, 10, 11, 12, 13, 14, 15, 16, 8, 17, 30, 31, 32, 33, 34, 35, 36, 37, 38, 39, 40, 41, 42, 50, 51, 52, 53, 54] (by decide +kernel) (by decide +kernel)) (goodIn_sub (fun _ h => List.mem_cons_of_mem _ (List.mem_append_left _ (List.mem_append_right _ h))) (by decide +kernel))
set_option maxRecDepth 20000 in
theorem gX10_corks_X10_demandWall : GoodIn wsX10_corks (wsV RX10 117 RX10 yX10_demandWall wsX10_demandWall) := goodIn_app (goodIn_of _ (by decide +kernel)) ggX10_corks_X10_demandWall
set_option maxRecDepth 20000 in
theorem ggX10_corks_X10_within : GoodIn wsX10_corks wsX10_within := goodIn_r _ [17] (by decide +kernel) (by decide +kernel)
set_option maxRecDepth 20000 in
theorem gX10_corks_X10_within : GoodIn wsX10_corks (va_wsS RX10 107 yX10_within wsX10_within) := goodIn_app (goodIn_of _ (by decide +kernel)) ggX10_corks_X10_within
set_option maxRecDepth 20000 in
theorem ggX10_corks_X10_demand : GoodIn wsX10_corks wsX10_demand := goodIn_ca (goodIn_r _ [21, 22, 23, 14, 30, 31, 32, 33, 34, 35, 36, 37, 38, 39, 40, 41, 42] (by decide +kernel) (by decide +kernel)) (goodIn_sub (fun _ h => List.mem_cons_of_mem _ (List.mem_append_right _ h)) (by decide +kernel))
set_option maxRecDepth 20000 in
theorem gX10_corks_X10_demand : GoodIn wsX10_corks (wsV RX10 81 RX10 yX10_demand wsX10_demand) := goodIn_app (goodIn_of _ (by decide +kernel)) ggX10_corks_X10_demand
set_option maxRecDepth 20000 in
theorem ggX10_corks_X0_shotAt : GoodIn wsX10_corks wsX0_shotAt := goodIn_r _ [28, 29, 55] (by decide +kernel) (by decide +kernel)
set_option maxRecDepth 20000 in
theorem gX10_corks_X0_shotAt : GoodIn wsX10_corks (wsV RX10 173 RX0 yX0_shotAt wsX0_shotAt) := goodIn_app (goodIn_of _ (by decide +kernel)) ggX10_corks_X0_shotAt
theorem dX10_corks_0 : decode cX10_corks 0 = .ok (.aload_n 0, 1) := by decide +kernel
theorem dX10_corks_1 : decode cX10_corks 1 = .ok (.iload_n 2, 1) := by decide +kernel
theorem dX10_corks_2 : decode cX10_corks 2 = .ok (.invokevirtual 117, 3) := by decide +kernel
theorem dX10_corks_5 : decode cX10_corks 5 = .ok (.aload_n 0, 1) := by decide +kernel
theorem dX10_corks_6 : decode cX10_corks 6 = .ok (.iload_n 1, 1) := by decide +kernel
theorem dX10_corks_7 : decode cX10_corks 7 = .ok (.iconst 0, 1) := by decide +kernel
theorem dX10_corks_8 : decode cX10_corks 8 = .ok (.bipush 119, 2) := by decide +kernel
theorem dX10_corks_10 : decode cX10_corks 10 = .ok (.invokestatic 107, 3) := by decide +kernel
theorem dX10_corks_13 : decode cX10_corks 13 = .ok (.invokevirtual 81, 3) := by decide +kernel
theorem dX10_corks_16 : decode cX10_corks 16 = .ok (.iload_n 1, 1) := by decide +kernel
theorem dX10_corks_17 : decode cX10_corks 17 = .ok (.aload_n 0, 1) := by decide +kernel
theorem dX10_corks_18 : decode cX10_corks 18 = .ok (.getfield 39, 3) := by decide +kernel
theorem dX10_corks_21 : decode cX10_corks 21 = .ok (.getfield 66, 3) := by decide +kernel
theorem dX10_corks_24 : decode cX10_corks 24 = .ok (.getfield 114, 3) := by decide +kernel
theorem dX10_corks_27 : decode cX10_corks 27 = .ok (.if_icmp .ge 18, 3) := by decide +kernel
theorem dX10_corks_30 : decode cX10_corks 30 = .ok (.aload_n 0, 1) := by decide +kernel
theorem dX10_corks_31 : decode cX10_corks 31 = .ok (.getfield 39, 3) := by decide +kernel
theorem dX10_corks_34 : decode cX10_corks 34 = .ok (.getfield 143, 3) := by decide +kernel
theorem dX10_corks_37 : decode cX10_corks 37 = .ok (.iload_n 1, 1) := by decide +kernel
theorem dX10_corks_38 : decode cX10_corks 38 = .ok (.iload_n 2, 1) := by decide +kernel
theorem dX10_corks_39 : decode cX10_corks 39 = .ok (.invokevirtual 173, 3) := by decide +kernel
theorem dX10_corks_42 : decode cX10_corks 42 = .ok (.goto 4, 3) := by decide +kernel
theorem dX10_corks_45 : decode cX10_corks 45 = .ok (.iconst 0, 1) := by decide +kernel
theorem dX10_corks_46 : decode cX10_corks 46 = .ok (.ireturn, 1) := by decide +kernel
set_option maxRecDepth 20000 in
theorem ggX10_would_X10_demandContractOrNone : GoodIn wsX10_would wsX10_demandContractOrNone := goodIn_ca (goodIn_r _ [7, 8, 9, 10, 6, 11, 12, 13, 14, 15, 16, 17, 18, 134, 135, 136, 137, 138, 139, 140, 141, 142, 143, 144, 145, 146] (by decide +kernel) (by decide +kernel)) (goodIn_sub (fun _ h => List.mem_cons_of_mem _ (List.mem_append_left _ (List.mem_append_right _ h))) (by decide +kernel))
set_option maxRecDepth 20000 in
theorem gX10_would_X10_demandContractOrNone : GoodIn wsX10_would (wsV RX10 137 RX10 yX10_demandContractOrNone wsX10_demandContractOrNone) := goodIn_app (goodIn_of _ (by decide +kernel)) ggX10_would_X10_demandContractOrNone
set_option maxRecDepth 20000 in
theorem ggX10_would_X10_within : GoodIn wsX10_would wsX10_within := goodIn_r _ [18] (by decide +kernel) (by decide +kernel)
set_option maxRecDepth 20000 in
theorem gX10_would_X10_within : GoodIn wsX10_would (va_wsS RX10 107 yX10_within wsX10_within) := goodIn_app (goodIn_of _ (by decide +kernel)) ggX10_would_X10_within
set_option maxRecDepth 20000 in
theorem ggX10_would_X10_demand : GoodIn wsX10_would wsX10_demand := goodIn_ca (goodIn_r _ [22, 23, 24, 15, 134, 135, 136, 137, 138, 139, 140, 141, 142, 143, 144, 145, 146] (by decide +kernel) (by decide +kernel)) (goodIn_sub (fun _ h => List.mem_cons_of_mem _ (List.mem_append_right _ h)) (by decide +kernel))
set_option maxRecDepth 20000 in
theorem gX10_would_X10_demand : GoodIn wsX10_would (wsV RX10 81 RX10 yX10_demand wsX10_demand) := goodIn_app (goodIn_of _ (by decide +kernel)) ggX10_would_X10_demand
set_option maxRecDepth 20000 in
theorem ggX10_would_X10_trySigned : GoodIn wsX10_would wsX10_trySigned := goodIn_r _ [28, 1, 29, 30, 2, 31, 32, 33, 34, 35, 36, 37, 38, 39, 40, 41, 42, 43, 44, 45, 46, 47, 48, 6, 49, 50, 51, 52, 53, 54, 55, 56, 16, 17, 18, 57, 58, 59, 60, 61, 62, 63, 64, 65, 66, 67, 68, 69, 70, 71, 72, 73, 74, 75, 76, 77, 78, 79, 80, 81, 82, 83, 84, 85, 86, 87, 88, 89, 90, 91, 92, 93, 94, 95, 96, 97, 98, 99, 100, 101, 102, 103, 104, 105, 106, 107, 108, 109, 110, 111, 112, 113, 114, 115, 116, 117, 118, 119, 120, 121, 122, 123, 124, 125, 126, 127, 128, 129, 130, 131, 132, 133, 134, 135, 136, 137, 138, 139, 140, 141, 142, 143, 144, 145, 146, 150, 151, 152, 153, 147, 148, 149, 154, 155, 156, 157, 158, 159, 160, 161] (by decide +kernel) (by decide +kernel)
set_option maxRecDepth 20000 in
theorem gX10_would_X10_trySigned : GoodIn wsX10_would (wsV RX10 176 RX10 yX10_trySigned wsX10_trySigned) := goodIn_app (goodIn_of _ (by decide +kernel)) ggX10_would_X10_trySigned
theorem dX10_would_0 : decode cX10_would 0 = .ok (.aload_n 0, 1) := by decide +kernel
theorem dX10_would_1 : decode cX10_would 1 = .ok (.iload_n 1, 1) := by decide +kernel
theorem dX10_would_2 : decode cX10_would 2 = .ok (.invokevirtual 137, 3) := by decide +kernel
theorem dX10_would_5 : decode cX10_would 5 = .ok (.aload_n 0, 1) := by decide +kernel
theorem dX10_would_6 : decode cX10_would 6 = .ok (.iload_n 2, 1) := by decide +kernel
theorem dX10_would_7 : decode cX10_would 7 = .ok (.iconst 1, 1) := by decide +kernel
theorem dX10_would_8 : decode cX10_would 8 = .ok (.bipush 60, 2) := by decide +kernel
theorem dX10_would_10 : decode cX10_would 10 = .ok (.invokestatic 107, 3) := by decide +kernel
theorem dX10_would_13 : decode cX10_would 13 = .ok (.ifCond .eq 17, 3) := by decide +kernel
theorem dX10_would_16 : decode cX10_would 16 = .ok (.iload_n 3, 1) := by decide +kernel
theorem dX10_would_17 : decode cX10_would 17 = .ok (.iconst 0, 1) := by decide +kernel
theorem dX10_would_18 : decode cX10_would 18 = .ok (.bipush 9, 2) := by decide +kernel
theorem dX10_would_20 : decode cX10_would 20 = .ok (.invokestatic 107, 3) := by decide +kernel
theorem dX10_would_23 : decode cX10_would 23 = .ok (.ifCond .eq 7, 3) := by decide +kernel
theorem dX10_would_26 : decode cX10_would 26 = .ok (.iconst 1, 1) := by decide +kernel
theorem dX10_would_27 : decode cX10_would 27 = .ok (.goto 4, 3) := by decide +kernel
theorem dX10_would_30 : decode cX10_would 30 = .ok (.iconst 0, 1) := by decide +kernel
theorem dX10_would_31 : decode cX10_would 31 = .ok (.invokevirtual 81, 3) := by decide +kernel
theorem dX10_would_34 : decode cX10_would 34 = .ok (.aload_n 0, 1) := by decide +kernel
theorem dX10_would_35 : decode cX10_would 35 = .ok (.iload_n 1, 1) := by decide +kernel
theorem dX10_would_36 : decode cX10_would 36 = .ok (.iload_n 2, 1) := by decide +kernel
theorem dX10_would_37 : decode cX10_would 37 = .ok (.invokevirtual 176, 3) := by decide +kernel
theorem dX10_would_40 : decode cX10_would 40 = .ok (.pop, 1) := by decide +kernel
theorem dX10_would_41 : decode cX10_would 41 = .ok (.aload_n 0, 1) := by decide +kernel
theorem dX10_would_42 : decode cX10_would 42 = .ok (.getfield 50, 3) := by decide +kernel
theorem dX10_would_45 : decode cX10_would 45 = .ok (.getfield 111, 3) := by decide +kernel
theorem dX10_would_48 : decode cX10_would 48 = .ok (.iload_n 3, 1) := by decide +kernel
theorem dX10_would_49 : decode cX10_would 49 = .ok (.iaload, 1) := by decide +kernel
theorem dX10_would_50 : decode cX10_would 50 = .ok (.ireturn, 1) := by decide +kernel
set_option maxRecDepth 20000 in
theorem ggX10_best_X10_within : GoodIn wsX10_best wsX10_within := goodIn_r _ [5] (by decide +kernel) (by decide +kernel)
set_option maxRecDepth 20000 in
theorem gX10_best_X10_within : GoodIn wsX10_best (va_wsS RX10 107 yX10_within wsX10_within) := goodIn_app (goodIn_of _ (by decide +kernel)) ggX10_best_X10_within
set_option maxRecDepth 20000 in
theorem ggX10_best_X10_demand : GoodIn wsX10_best wsX10_demand := goodIn_ca (goodIn_r _ [9, 10, 11, 12, 124, 125, 126, 127, 128, 129, 130, 131, 132, 133, 134, 135, 136] (by decide +kernel) (by decide +kernel)) (goodIn_sub (fun _ h => List.mem_cons_of_mem _ (List.mem_append_right _ h)) (by decide +kernel))
set_option maxRecDepth 20000 in
theorem gX10_best_X10_demand : GoodIn wsX10_best (wsV RX10 81 RX10 yX10_demand wsX10_demand) := goodIn_app (goodIn_of _ (by decide +kernel)) ggX10_best_X10_demand
set_option maxRecDepth 20000 in
theorem ggX10_best_X10_trySigned : GoodIn wsX10_best wsX10_trySigned := goodIn_r _ [16, 17, 18, 19, 20, 21, 22, 23, 24, 25, 26, 27, 28, 29, 30, 31, 32, 33, 34, 35, 36, 37, 38, 4, 39, 40, 41, 42, 43, 44, 45, 46, 2, 3, 5, 47, 48, 49, 50, 51, 52, 53, 54, 55, 56, 57, 58, 59, 60, 61, 62, 63, 64, 65, 66, 67, 68, 69, 70, 71, 72, 73, 74, 75, 76, 77, 78, 79, 80, 81, 82, 83, 84, 85, 86, 87, 88, 89, 90, 91, 92, 93, 94, 95, 96, 97, 98, 99, 100, 101, 102, 103, 104, 105, 106, 107, 108, 109, 110, 111, 112, 113, 114, 115, 116, 117, 118, 119, 120, 121, 122, 123, 124, 125, 126, 127, 128, 129, 130, 131, 132, 133, 134, 135, 136, 137, 138, 139, 140, 141, 142, 143, 144, 145, 146, 147, 148, 149, 150, 151] (by decide +kernel) (by decide +kernel)
set_option maxRecDepth 20000 in
theorem gX10_best_X10_trySigned : GoodIn wsX10_best (wsV RX10 176 RX10 yX10_trySigned wsX10_trySigned) := goodIn_app (goodIn_of _ (by decide +kernel)) ggX10_best_X10_trySigned
theorem dX10_best_0 : decode cX10_best 0 = .ok (.aload_n 0, 1) := by decide +kernel
theorem dX10_best_1 : decode cX10_best 1 = .ok (.iload_n 1, 1) := by decide +kernel
theorem dX10_best_2 : decode cX10_best 2 = .ok (.iconst 1, 1) := by decide +kernel
theorem dX10_best_3 : decode cX10_best 3 = .ok (.bipush 60, 2) := by decide +kernel
theorem dX10_best_5 : decode cX10_best 5 = .ok (.invokestatic 107, 3) := by decide +kernel
theorem dX10_best_8 : decode cX10_best 8 = .ok (.ifCond .eq 16, 3) := by decide +kernel
theorem dX10_best_11 : decode cX10_best 11 = .ok (.iload_n 2, 1) := by decide +kernel
theorem dX10_best_12 : decode cX10_best 12 = .ok (.iconst 0, 1) := by decide +kernel
theorem dX10_best_13 : decode cX10_best 13 = .ok (.iconst 1, 1) := by decide +kernel
theorem dX10_best_14 : decode cX10_best 14 = .ok (.invokestatic 107, 3) := by decide +kernel
theorem dX10_best_17 : decode cX10_best 17 = .ok (.ifCond .eq 7, 3) := by decide +kernel
theorem dX10_best_20 : decode cX10_best 20 = .ok (.iconst 1, 1) := by decide +kernel
theorem dX10_best_21 : decode cX10_best 21 = .ok (.goto 4, 3) := by decide +kernel
theorem dX10_best_24 : decode cX10_best 24 = .ok (.iconst 0, 1) := by decide +kernel
theorem dX10_best_25 : decode cX10_best 25 = .ok (.invokevirtual 81, 3) := by decide +kernel
theorem dX10_best_28 : decode cX10_best 28 = .ok (.iconst (-1), 1) := by decide +kernel
theorem dX10_best_29 : decode cX10_best 29 = .ok (.istore_n 3, 1) := by decide +kernel
theorem dX10_best_30 : decode cX10_best 30 = .ok (.iconst (-1), 1) := by decide +kernel
theorem dX10_best_31 : decode cX10_best 31 = .ok (.istore 4, 2) := by decide +kernel
theorem dX10_best_33 : decode cX10_best 33 = .ok (.iconst 0, 1) := by decide +kernel
theorem dX10_best_34 : decode cX10_best 34 = .ok (.istore 5, 2) := by decide +kernel
theorem dX10_best_36 : decode cX10_best 36 = .ok (.iload 5, 2) := by decide +kernel
theorem dX10_best_38 : decode cX10_best 38 = .ok (.aload_n 0, 1) := by decide +kernel
theorem dX10_best_39 : decode cX10_best 39 = .ok (.getfield 92, 3) := by decide +kernel
theorem dX10_best_42 : decode cX10_best 42 = .ok (.if_icmp .ge 32, 3) := by decide +kernel
theorem dX10_best_45 : decode cX10_best 45 = .ok (.aload_n 0, 1) := by decide +kernel
theorem dX10_best_46 : decode cX10_best 46 = .ok (.iload 5, 2) := by decide +kernel
theorem dX10_best_48 : decode cX10_best 48 = .ok (.iload_n 1, 1) := by decide +kernel
theorem dX10_best_49 : decode cX10_best 49 = .ok (.invokevirtual 176, 3) := by decide +kernel
theorem dX10_best_52 : decode cX10_best 52 = .ok (.istore 6, 2) := by decide +kernel
theorem dX10_best_54 : decode cX10_best 54 = .ok (.iload 6, 2) := by decide +kernel
theorem dX10_best_56 : decode cX10_best 56 = .ok (.iload 4, 2) := by decide +kernel
theorem dX10_best_58 : decode cX10_best 58 = .ok (.if_icmp .le 10, 3) := by decide +kernel
theorem dX10_best_61 : decode cX10_best 61 = .ok (.iload 6, 2) := by decide +kernel
theorem dX10_best_63 : decode cX10_best 63 = .ok (.istore 4, 2) := by decide +kernel
theorem dX10_best_65 : decode cX10_best 65 = .ok (.iload 5, 2) := by decide +kernel
theorem dX10_best_67 : decode cX10_best 67 = .ok (.istore_n 3, 1) := by decide +kernel
theorem dX10_best_68 : decode cX10_best 68 = .ok (.iinc 5 1, 3) := by decide +kernel
theorem dX10_best_71 : decode cX10_best 71 = .ok (.goto (-35), 3) := by decide +kernel
theorem dX10_best_74 : decode cX10_best 74 = .ok (.aload_n 0, 1) := by decide +kernel
theorem dX10_best_75 : decode cX10_best 75 = .ok (.iconst (-1), 1) := by decide +kernel
theorem dX10_best_76 : decode cX10_best 76 = .ok (.iload_n 1, 1) := by decide +kernel
theorem dX10_best_77 : decode cX10_best 77 = .ok (.invokevirtual 176, 3) := by decide +kernel
theorem dX10_best_80 : decode cX10_best 80 = .ok (.istore 5, 2) := by decide +kernel
theorem dX10_best_82 : decode cX10_best 82 = .ok (.iload 5, 2) := by decide +kernel
theorem dX10_best_84 : decode cX10_best 84 = .ok (.iload 4, 2) := by decide +kernel
theorem dX10_best_86 : decode cX10_best 86 = .ok (.if_icmp .le 9, 3) := by decide +kernel
theorem dX10_best_89 : decode cX10_best 89 = .ok (.iload 5, 2) := by decide +kernel
theorem dX10_best_91 : decode cX10_best 91 = .ok (.istore 4, 2) := by decide +kernel
theorem dX10_best_93 : decode cX10_best 93 = .ok (.iconst (-1), 1) := by decide +kernel
theorem dX10_best_94 : decode cX10_best 94 = .ok (.istore_n 3, 1) := by decide +kernel
theorem dX10_best_95 : decode cX10_best 95 = .ok (.iload_n 2, 1) := by decide +kernel
theorem dX10_best_96 : decode cX10_best 96 = .ok (.ifCond .ne 7, 3) := by decide +kernel
theorem dX10_best_99 : decode cX10_best 99 = .ok (.iload_n 3, 1) := by decide +kernel
theorem dX10_best_100 : decode cX10_best 100 = .ok (.goto 5, 3) := by decide +kernel
theorem dX10_best_103 : decode cX10_best 103 = .ok (.iload 4, 2) := by decide +kernel
theorem dX10_best_105 : decode cX10_best 105 = .ok (.ireturn, 1) := by decide +kernel
set_option maxRecDepth 20000 in
theorem ggX10_offer_X10_within : GoodIn wsX10_offer wsX10_within := goodIn_r _ [6] (by decide +kernel) (by decide +kernel)
set_option maxRecDepth 20000 in
theorem gX10_offer_X10_within : GoodIn wsX10_offer (va_wsS RX10 107 yX10_within wsX10_within) := goodIn_app (goodIn_of _ (by decide +kernel)) ggX10_offer_X10_within
set_option maxRecDepth 20000 in
theorem ggX10_offer_X10_demand : GoodIn wsX10_offer wsX10_demand := goodIn_ca (goodIn_r _ [10, 11, 12, 13, 138, 139, 140, 141, 142, 143, 144, 145, 146, 147, 148, 149, 150] (by decide +kernel) (by decide +kernel)) (goodIn_sub (fun _ h => List.mem_cons_of_mem _ (List.mem_append_right _ h)) (by decide +kernel))
set_option maxRecDepth 20000 in
theorem gX10_offer_X10_demand : GoodIn wsX10_offer (wsV RX10 81 RX10 yX10_demand wsX10_demand) := goodIn_app (goodIn_of _ (by decide +kernel)) ggX10_offer_X10_demand
set_option maxRecDepth 20000 in
theorem ggX10_offer_X6_wanted : GoodIn wsX10_offer wsX6_wanted := goodIn_r _ [18, 19, 151, 152, 153, 154, 155] (by decide +kernel) (by decide +kernel)
set_option maxRecDepth 20000 in
theorem gX10_offer_X6_wanted : GoodIn wsX10_offer (wsV RX10 133 RX6 yX6_wanted wsX6_wanted) := goodIn_app (goodIn_of _ (by decide +kernel)) ggX10_offer_X6_wanted
set_option maxRecDepth 20000 in
theorem ggX10_offer_X5_propose : GoodIn wsX10_offer wsX5_propose := goodIn_r _ [24, 25, 26, 27, 28, 23, 29, 30, 31, 32, 33, 34, 35, 156, 157, 158] (by decide +kernel) (by decide +kernel)
set_option maxRecDepth 20000 in
theorem gX10_offer_X5_propose : GoodIn wsX10_offer (wsV RX10 179 RX5 yX5_propose wsX5_propose) := goodIn_app (goodIn_of _ (by decide +kernel)) ggX10_offer_X5_propose
set_option maxRecDepth 20000 in
theorem ggX10_offer_X10_trySigned : GoodIn wsX10_offer wsX10_trySigned := goodIn_r _ [39, 40, 41, 42, 43, 44, 45, 46, 47, 48, 49, 50, 51, 52, 53, 54, 55, 56, 57, 58, 59, 60, 61, 5, 62, 63, 2, 64, 65, 66, 67, 1, 3, 4, 6, 68, 69, 70, 71, 72, 73, 74, 75, 76, 77, 78, 79, 33, 34, 35, 80, 81, 82, 83, 84, 85, 86, 87, 88, 89, 90, 91, 92, 93, 23, 94, 25, 95, 96, 97, 98, 99, 100, 101, 102, 103, 104, 105, 106, 107, 31, 108, 109, 110, 111, 112, 113, 114, 115, 116, 117, 118, 119, 120, 121, 122, 123, 17, 124, 125, 126, 127, 128, 129, 130, 131, 132, 133, 134, 135, 136, 137, 138, 139, 140, 141, 142, 143, 144, 145, 146, 147, 148, 149, 150, 159, 160, 161, 162, 163, 164, 165, 151, 152, 153, 154, 155, 156, 157, 158] (by decide +kernel) (by decide +kernel)
set_option maxRecDepth 20000 in
theorem gX10_offer_X10_trySigned : GoodIn wsX10_offer (wsV RX10 176 RX10 yX10_trySigned wsX10_trySigned) := goodIn_app (goodIn_of _ (by decide +kernel)) ggX10_offer_X10_trySigned
theorem dX10_offer_0 : decode cX10_offer 0 = .ok (.aload_n 0, 1) := by decide +kernel
theorem dX10_offer_1 : decode cX10_offer 1 = .ok (.iload_n 1, 1) := by decide +kernel
theorem dX10_offer_2 : decode cX10_offer 2 = .ok (.iconst 1, 1) := by decide +kernel
theorem dX10_offer_3 : decode cX10_offer 3 = .ok (.bipush 60, 2) := by decide +kernel
theorem dX10_offer_5 : decode cX10_offer 5 = .ok (.invokestatic 107, 3) := by decide +kernel
theorem dX10_offer_8 : decode cX10_offer 8 = .ok (.ifCond .eq 16, 3) := by decide +kernel
theorem dX10_offer_11 : decode cX10_offer 11 = .ok (.iload_n 2, 1) := by decide +kernel
theorem dX10_offer_12 : decode cX10_offer 12 = .ok (.iconst 0, 1) := by decide +kernel
theorem dX10_offer_13 : decode cX10_offer 13 = .ok (.iconst 3, 1) := by decide +kernel
theorem dX10_offer_14 : decode cX10_offer 14 = .ok (.invokestatic 107, 3) := by decide +kernel
theorem dX10_offer_17 : decode cX10_offer 17 = .ok (.ifCond .eq 7, 3) := by decide +kernel
theorem dX10_offer_20 : decode cX10_offer 20 = .ok (.iconst 1, 1) := by decide +kernel
theorem dX10_offer_21 : decode cX10_offer 21 = .ok (.goto 4, 3) := by decide +kernel
theorem dX10_offer_24 : decode cX10_offer 24 = .ok (.iconst 0, 1) := by decide +kernel
theorem dX10_offer_25 : decode cX10_offer 25 = .ok (.invokevirtual 81, 3) := by decide +kernel
theorem dX10_offer_28 : decode cX10_offer 28 = .ok (.iconst 0, 1) := by decide +kernel
theorem dX10_offer_29 : decode cX10_offer 29 = .ok (.istore_n 3, 1) := by decide +kernel
theorem dX10_offer_30 : decode cX10_offer 30 = .ok (.iconst 0, 1) := by decide +kernel
theorem dX10_offer_31 : decode cX10_offer 31 = .ok (.istore 4, 2) := by decide +kernel
theorem dX10_offer_33 : decode cX10_offer 33 = .ok (.iconst (-1), 1) := by decide +kernel
theorem dX10_offer_34 : decode cX10_offer 34 = .ok (.istore 5, 2) := by decide +kernel
theorem dX10_offer_36 : decode cX10_offer 36 = .ok (.iconst 0, 1) := by decide +kernel
theorem dX10_offer_37 : decode cX10_offer 37 = .ok (.istore 6, 2) := by decide +kernel
theorem dX10_offer_39 : decode cX10_offer 39 = .ok (.iload 6, 2) := by decide +kernel
theorem dX10_offer_41 : decode cX10_offer 41 = .ok (.bipush 9, 2) := by decide +kernel
theorem dX10_offer_43 : decode cX10_offer 43 = .ok (.if_icmp .gt 78, 3) := by decide +kernel
theorem dX10_offer_46 : decode cX10_offer 46 = .ok (.iconst 0, 1) := by decide +kernel
theorem dX10_offer_47 : decode cX10_offer 47 = .ok (.istore 7, 2) := by decide +kernel
theorem dX10_offer_49 : decode cX10_offer 49 = .ok (.iload 7, 2) := by decide +kernel
theorem dX10_offer_51 : decode cX10_offer 51 = .ok (.bipush 20, 2) := by decide +kernel
theorem dX10_offer_53 : decode cX10_offer 53 = .ok (.if_icmp .gt 62, 3) := by decide +kernel
theorem dX10_offer_56 : decode cX10_offer 56 = .ok (.aload_n 0, 1) := by decide +kernel
theorem dX10_offer_57 : decode cX10_offer 57 = .ok (.getfield 32, 3) := by decide +kernel
theorem dX10_offer_60 : decode cX10_offer 60 = .ok (.bipush 6, 2) := by decide +kernel
theorem dX10_offer_62 : decode cX10_offer 62 = .ok (.aaload, 1) := by decide +kernel
theorem dX10_offer_63 : decode cX10_offer 63 = .ok (.aload_n 0, 1) := by decide +kernel
theorem dX10_offer_64 : decode cX10_offer 64 = .ok (.getfield 23, 3) := by decide +kernel
theorem dX10_offer_67 : decode cX10_offer 67 = .ok (.iload 6, 2) := by decide +kernel
theorem dX10_offer_69 : decode cX10_offer 69 = .ok (.iload 7, 2) := by decide +kernel
theorem dX10_offer_71 : decode cX10_offer 71 = .ok (.invokevirtual 133, 3) := by decide +kernel
theorem dX10_offer_74 : decode cX10_offer 74 = .ok (.iload 6, 2) := by decide +kernel
theorem dX10_offer_76 : decode cX10_offer 76 = .ok (.iload 7, 2) := by decide +kernel
theorem dX10_offer_78 : decode cX10_offer 78 = .ok (.iload_n 1, 1) := by decide +kernel
theorem dX10_offer_79 : decode cX10_offer 79 = .ok (.invokevirtual 179, 3) := by decide +kernel
theorem dX10_offer_82 : decode cX10_offer 82 = .ok (.aload_n 0, 1) := by decide +kernel
theorem dX10_offer_83 : decode cX10_offer 83 = .ok (.bipush 6, 2) := by decide +kernel
theorem dX10_offer_85 : decode cX10_offer 85 = .ok (.iload_n 1, 1) := by decide +kernel
theorem dX10_offer_86 : decode cX10_offer 86 = .ok (.invokevirtual 176, 3) := by decide +kernel
theorem dX10_offer_89 : decode cX10_offer 89 = .ok (.istore 8, 2) := by decide +kernel
theorem dX10_offer_91 : decode cX10_offer 91 = .ok (.iload 8, 2) := by decide +kernel
theorem dX10_offer_93 : decode cX10_offer 93 = .ok (.iload 5, 2) := by decide +kernel
theorem dX10_offer_95 : decode cX10_offer 95 = .ok (.if_icmp .le 14, 3) := by decide +kernel
theorem dX10_offer_98 : decode cX10_offer 98 = .ok (.iload 8, 2) := by decide +kernel
theorem dX10_offer_100 : decode cX10_offer 100 = .ok (.istore 5, 2) := by decide +kernel
theorem dX10_offer_102 : decode cX10_offer 102 = .ok (.iload 6, 2) := by decide +kernel
theorem dX10_offer_104 : decode cX10_offer 104 = .ok (.istore_n 3, 1) := by decide +kernel
theorem dX10_offer_105 : decode cX10_offer 105 = .ok (.iload 7, 2) := by decide +kernel
theorem dX10_offer_107 : decode cX10_offer 107 = .ok (.istore 4, 2) := by decide +kernel
theorem dX10_offer_109 : decode cX10_offer 109 = .ok (.iinc 7 1, 3) := by decide +kernel
theorem dX10_offer_112 : decode cX10_offer 112 = .ok (.goto (-63), 3) := by decide +kernel
theorem dX10_offer_115 : decode cX10_offer 115 = .ok (.iinc 6 1, 3) := by decide +kernel
theorem dX10_offer_118 : decode cX10_offer 118 = .ok (.goto (-79), 3) := by decide +kernel
theorem dX10_offer_121 : decode cX10_offer 121 = .ok (.iload_n 2, 1) := by decide +kernel
theorem dX10_offer_122 : decode cX10_offer 122 = .ok (.tableswitch 42 0 2 #[26, 28, 31], 26) := by decide +kernel
theorem dX10_offer_148 : decode cX10_offer 148 = .ok (.iload_n 3, 1) := by decide +kernel
theorem dX10_offer_149 : decode cX10_offer 149 = .ok (.ireturn, 1) := by decide +kernel
theorem dX10_offer_150 : decode cX10_offer 150 = .ok (.iload 4, 2) := by decide +kernel
theorem dX10_offer_152 : decode cX10_offer 152 = .ok (.ireturn, 1) := by decide +kernel
theorem dX10_offer_153 : decode cX10_offer 153 = .ok (.aload_n 0, 1) := by decide +kernel
theorem dX10_offer_154 : decode cX10_offer 154 = .ok (.getfield 23, 3) := by decide +kernel
theorem dX10_offer_157 : decode cX10_offer 157 = .ok (.iload_n 3, 1) := by decide +kernel
theorem dX10_offer_158 : decode cX10_offer 158 = .ok (.iload 4, 2) := by decide +kernel
theorem dX10_offer_160 : decode cX10_offer 160 = .ok (.invokevirtual 133, 3) := by decide +kernel
theorem dX10_offer_163 : decode cX10_offer 163 = .ok (.ireturn, 1) := by decide +kernel
theorem dX10_offer_164 : decode cX10_offer 164 = .ok (.iload 5, 2) := by decide +kernel
theorem dX10_offer_166 : decode cX10_offer 166 = .ok (.ireturn, 1) := by decide +kernel
set_option maxRecDepth 20000 in
theorem ggX10_nearest_X10_within : GoodIn wsX10_nearest wsX10_within := goodIn_r _ [5] (by decide +kernel) (by decide +kernel)
set_option maxRecDepth 20000 in
theorem gX10_nearest_X10_within : GoodIn wsX10_nearest (va_wsS RX10 107 yX10_within wsX10_within) := goodIn_app (goodIn_of _ (by decide +kernel)) ggX10_nearest_X10_within
